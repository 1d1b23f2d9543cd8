/-! the reference's smaller methods as functions -/
def by8 (f : Nat → Int32) : Nat → Int32 := fun k => f k &&& 255
def mo_let (x : Int32) : Bool := decide (97 ≤ x) && decide (x ≤ 122)
def mo_day (x : Int32) : Bool := decide (0 ≤ x) && decide (x ≤ 1000000)
theorem mo_day_of {x : Int32} (h : mo_day x = true) : ∃ d : Nat, d ≤ 1000000 ∧ nI d = x := by
  simp only [mo_day, Bool.and_eq_true, decide_eq_true_eq] at h
  obtain ⟨j, hj, e⟩ := nI_of (x := x) (Int32.not_lt.mpr h.1)
  subst e
  exact ⟨j, (nI_leI (b := 1000000) hj (by omega)).mp h.2, rfl⟩
theorem mo_day_nI {d : Nat} (h : d < 2 ^ 31) : mo_day (nI d) = decide (d ≤ 1000000) := by
  unfold mo_day
  rw [decide_eq_true (nI_pos' h), Bool.true_and]
  exact decide_eq_decide.mpr (nI_leI (b := 1000000) h (by omega))
def mo_hol (h : Nat → Int32) (x : Int32) : Nat → Nat → Bool → Bool
  | 0, _, b => b
  | f + 1, k, b => mo_hol h x f (k + 1) (b || decide (h k = x))
theorem mo_hol_go {h : Nat → Int32} {x : Int32} {n k : Nat} {b : Bool} (hk : k < n) : mo_hol h x (n - k) k b = mo_hol h x (n - (k + 1)) (k + 1) (b || decide (h k = x)) := by
  obtain ⟨f, hf⟩ : ∃ f, n - k = f + 1 := ⟨n - k - 1, by omega⟩
  rw [hf, show n - (k + 1) = f by omega, mo_hol]
theorem mo_hol_0 {h : Nat → Int32} {x : Int32} {n k : Nat} {b : Bool} (hk : n ≤ k) : mo_hol h x (n - k) k b = b := by
  rw [show n - k = 0 by omega, mo_hol]
def mo_late (fc fe : Nat → Int32) (k : Nat) (x : Int32) : Int32 := if 0 < (if fc k = (-1) then x else fc k) - fe k then (if fc k = (-1) then x else fc k) - fe k else 0
def mo_clm (fc fe : Nat → Int32) (k : Nat) (x : Int32) : Bool := decide (fc k = (-1)) && decide (0 < mo_late fc fe k x)
theorem nf_shr : ∀ m, m < 12 → ∀ i, i < 32 → ((1 : Int32) <<< (nI m &&& 31)).toBitVec.getLsbD i = decide (i = m) := by decide +kernel
theorem sw_0_5 (x : Int32) : (x.toInt < 0 ∨ 5 < x.toInt) ∨ x = 0 ∨ x = 1 ∨ x = 2 ∨ x = 3 ∨ x = 4 ∨ x = 5 := by
  by_cases h : x.toInt < 0 ∨ 5 < x.toInt
  · exact Or.inl h
  · refine Or.inr ?_
    obtain ⟨j, hj, e⟩ := nI_of (x := x) (by rw [Int32.lt_iff_toInt_lt]; simp only [Int32.reduceToInt]; omega)
    subst e
    rw [nI_toInt hj] at h
    rcases (show j = 0 ∨ j = 1 ∨ j = 2 ∨ j = 3 ∨ j = 4 ∨ j = 5 by omega) with rfl | rfl | rfl | rfl | rfl | rfl <;> decide
def mo_iss (ns : Nat) (fc : Nat → Int32) (pn nn vn : Nat → Nat) (rn tn : Nat → Bool) (x y : Int32) : Int32 :=
  if li_has ns x = true then
    (if y = 0 then nI (pt_told (rn (pn x.toNatClampNeg)) (vn (pn x.toNatClampNeg)) (nn x.toNatClampNeg))
     else if y = 1 then (if tn x.toNatClampNeg = true then 2 else 1)
     else if y = 2 then nI (pt_vol (vn (pn x.toNatClampNeg)) (nn x.toNatClampNeg))
     else if y = 3 then (if tn x.toNatClampNeg = true then nI (pt_told (rn (pn x.toNatClampNeg)) (vn (pn x.toNatClampNeg)) (nn x.toNatClampNeg + 1)) else 0)
     else if y = 4 then nI (pn x.toNatClampNeg)
     else if y = 5 then (if fc x.toNatClampNeg = (-1) then 0 else 1)
     else (-1))
  else (-1)
theorem sw_no {x : Int32} (h : x.toInt < 0 ∨ 5 < x.toInt) (k : Int32) (h0 : 0 ≤ k.toInt) (h5 : k.toInt ≤ 5) : ¬ x = k := fun e => by subst e; omega
