/-! the class's questions as functions -/
def pa_iss (ns : Nat) (ft fn fv f2 fp fc : Nat → Int32) (x y : Int32) : Int32 :=
  if li_has ns x = true then
    (if y = 0 then ft x.toNatClampNeg else if y = 1 then fn x.toNatClampNeg else if y = 2 then fv x.toNatClampNeg
     else if y = 3 then f2 x.toNatClampNeg else if y = 4 then fp x.toNatClampNeg else if y = 5 then (if fc x.toNatClampNeg = (-1) then 0 else 1) else (-1))
  else (-1)
def li_it (ns : Nat) (fc fe : Nat → Int32) (dy : Int32) : Nat → Option Nat → Option Nat
  | 0, pl => pl
  | f + 1, pl => li_it ns fc fe dy f (li_nxt ns fc fe dy pl ns 0 none)
theorem li_it_go {ns : Nat} {fc fe : Nat → Int32} {dy : Int32} {i k : Nat} {pl : Option Nat} (h : k ≤ i) : li_it ns fc fe dy (i + 1 - k) pl = li_it ns fc fe dy (i + 1 - (k + 1)) (li_nxt ns fc fe dy pl ns 0 none) := by
  obtain ⟨f, hf⟩ : ∃ f, i + 1 - k = f + 1 := ⟨i - k, by omega⟩
  rw [hf, show i + 1 - (k + 1) = f by omega, li_it]
theorem li_it_0 {ns : Nat} {fc fe : Nat → Int32} {dy : Int32} {i k : Nat} {pl : Option Nat} (h : i < k) : li_it ns fc fe dy (i + 1 - k) pl = pl := by
  rw [show i + 1 - k = 0 by omega, li_it]
theorem li_nxt_lt {n : Nat} {fc fe : Nat → Int32} {dy : Int32} {b : Option Nat} : ∀ (f k : Nat) (be : Option Nat), (∀ j, be = some j → j < n) → ∀ j, li_nxt n fc fe dy b f k be = some j → j < n := by
  intro f
  induction f with
  | zero => intro k be h j hj; exact h j hj
  | succ f ih =>
    intro k be h j hj
    rw [li_nxt] at hj
    refine ih (k + 1) _ ?_ j hj
    intro z hz
    cases hc : (li_fol n fc fe dy b k && li_bet fe be k) with
    | false => rw [hc] at hz; exact h z hz
    | true =>
      rw [hc] at hz
      cases hz
      simp only [li_fol, li_due, Bool.and_eq_true, decide_eq_true_eq] at hc
      exact hc.1.1.1.1
theorem pa_y_of {y : Int32} {c : Nat} (hc : c < 2 ^ 31) (h1 : ¬ y < 0) (h2 : y < nI c) : ∃ i : Nat, i < c ∧ nI i = y := by
  obtain ⟨j, hj, e⟩ := nI_of h1
  subst e
  exact ⟨j, (nI_ltI hj hc).mp h2, rfl⟩
theorem li_cnt_le {n : Nat} {fc fe : Nat → Int32} {dy : Int32} : ∀ (f k c : Nat), li_cnt n fc fe dy f k c ≤ c + f := by
  intro f
  induction f with
  | zero => intro k c; exact Nat.le_refl _
  | succ f ih =>
    intro k c
    rw [li_cnt]
    cases li_due n fc fe dy k with
    | false => have := ih (k + 1) c; exact Nat.le_trans this (by omega)
    | true => have := ih (k + 1) (c + 1); exact Nat.le_trans this (by omega)
