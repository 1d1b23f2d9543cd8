/-! the reference's read, go as functions -/
/-- k signs put from place o on -/
def mo_cq (tb : Nat → Int32) (o k : Nat) (kx : Nat → Int32) : Nat → Int32 := fun j => if o ≤ j ∧ j < o + k then tb (j - o) else kx j
theorem mo_cq_0 (tb : Nat → Int32) (o : Nat) (kx : Nat → Int32) : mo_cq tb o 0 kx = kx := by
  funext j
  exact if_neg (by omega)
theorem mo_cq_go (tb : Nat → Int32) (o k : Nat) (kx : Nat → Int32) : upd (mo_cq tb o k kx) (o + k) (tb k) = mo_cq tb o (k + 1) kx := by
  funext j
  unfold upd mo_cq
  by_cases h : j = o + k
  · subst h; rw [if_pos rfl, if_pos (by omega), Nat.add_sub_cancel_left]
  · rw [if_neg h]
    by_cases h2 : o ≤ j ∧ j < o + k
    · rw [if_pos h2, if_pos (by omega)]
    · rw [if_neg h2, if_neg (by omega)]
/-- the search of a step: up to one beyond far, or beyond the last day, or one with an issue -/
def mo_sr (sd : Nat) (mo : Int32) (far : Nat) : Nat → Nat → Nat
  | 0, y => y
  | f + 1, y => if far < y ∨ 1000000 < y then y else cond (pt_on mo y) y (mo_sr sd mo far f (y + sd))
theorem mo_sr_go {sd : Nat} {mo : Int32} {far k y : Nat} (hk : k ≤ 1800) : mo_sr sd mo far (1801 - k) y = if far < y ∨ 1000000 < y then y else cond (pt_on mo y) y (mo_sr sd mo far (1801 - (k + 1)) (y + sd)) := by
  obtain ⟨f, hf⟩ : ∃ f, 1801 - k = f + 1 := ⟨1800 - k, by omega⟩
  rw [hf, show 1801 - (k + 1) = f by omega, mo_sr]
theorem mo_sr_0 {sd : Nat} {mo : Int32} {far k y : Nat} (h : far < y ∨ 1000000 < y) : mo_sr sd mo far (1801 - k) y = y := by
  cases hf : 1801 - k with
  | zero => rfl
  | succ f => rw [mo_sr, if_pos h]
theorem pt_on_per (mo : Int32) (x : Nat) : pt_on mo (x + 1800) = pt_on mo x := by
  unfold pt_on
  rw [show (x + 1800) / 30 % 12 = x / 30 % 12 by omega]
/-- the class's search by the reference's -/
theorem mo_sr_eq {sd : Nat} {mo : Int32} {d : Nat} (hsd : 1 ≤ sd) : ∀ (f x : Nat), d ≤ x → d + 1800 ≤ x + f → (d = x ∨ pt_on mo d = false) →
    (∀ y, pt_sw sd mo d f x = some y → mo_sr sd mo (d + 1800) (f + 1) x = y) ∧ (pt_sw sd mo d f x = none → d + 1800 < mo_sr sd mo (d + 1800) (f + 1) x ∨ 1000000 < mo_sr sd mo (d + 1800) (f + 1) x) := by
  intro f
  induction f with
  | zero =>
    intro x h1 h2 h3
    refine ⟨fun y h => (by cases h), fun _ => ?_⟩
    rw [mo_sr]
    by_cases hc : d + 1800 < x ∨ 1000000 < x
    · rw [if_pos hc]; exact hc
    · rw [if_neg hc]
      have hx : x = d + 1800 := by omega
      have hoff : pt_on mo d = false := by
        rcases h3 with h | h
        · omega
        · exact h
      rw [hx, pt_on_per, hoff]
      left
      show d + 1800 < mo_sr sd mo (d + 1800) 0 (d + 1800 + sd)
      rw [mo_sr]; omega
  | succ f ih =>
    intro x h1 h2 h3
    rw [pt_sw, mo_sr]
    by_cases hb : 1000000 < x
    · rw [if_pos (Or.inr hb), if_pos (Or.inr hb)]
      exact ⟨fun y h => (by cases h), fun _ => Or.inr hb⟩
    · by_cases hf : d + 1800 < x
      · rw [if_pos (Or.inl (by omega)), if_pos (Or.inl hf)]
        exact ⟨fun y h => (by cases h), fun _ => Or.inl hf⟩
      · by_cases he : x = d + 1800
        · have hoff : pt_on mo d = false := by
            rcases h3 with h | h
            · omega
            · exact h
          rw [if_pos (Or.inl (by omega)), if_neg (by omega), he, pt_on_per, hoff]
          refine ⟨fun y h => (by cases h), fun _ => Or.inl ?_⟩
          show d + 1800 < mo_sr sd mo (d + 1800) (f + 1) (d + 1800 + sd)
          rw [mo_sr, if_pos (Or.inl (by omega))]; omega
        · rw [if_neg (by omega), if_neg (by omega)]
          cases ho : pt_on mo x with
          | true => exact ⟨fun y h => (by cases h; rfl), fun h => (by cases h)⟩
          | false =>
            refine ih (x + sd) (by omega) (by omega) (Or.inr ?_)
            rcases h3 with h | h
            · rw [h]; exact ho
            · exact h
theorem mo_sr_sw {sd : Nat} {mo : Int32} {d : Nat} (hsd : 1 ≤ sd) : (∀ y, pt_sw sd mo d 1800 d = some y → mo_sr sd mo (d + 1800) 1801 d = y) ∧ (pt_sw sd mo d 1800 d = none → d + 1800 < mo_sr sd mo (d + 1800) 1801 d ∨ 1000000 < mo_sr sd mo (d + 1800) 1801 d) := mo_sr_eq hsd 1800 d (Nat.le_refl _) (by omega) (Or.inl rfl)
/-- the next day that is no holiday -/
def mo_fr (hd : Nat → Int32) (hc : Nat) : Nat → Nat → Nat
  | 0, e => e
  | f + 1, e => cond (mo_hol hd (nI e) hc 0 false) (mo_fr hd hc f (e + 1)) e
theorem mo_fr_go {hd : Nat → Int32} {hc e : Nat} (he : e ≤ 1000000) (h : mo_hol hd (nI e) hc 0 false = true) : mo_fr hd hc (1000001 - e) e = mo_fr hd hc (1000001 - (e + 1)) (e + 1) := by
  obtain ⟨f, hf⟩ : ∃ f, 1000001 - e = f + 1 := ⟨1000000 - e, by omega⟩
  rw [hf, show 1000001 - (e + 1) = f by omega, mo_fr, h]
  rfl
theorem mo_fr_0 {hd : Nat → Int32} {hc e : Nat} (h : mo_hol hd (nI e) hc 0 false = false) : mo_fr hd hc (1000001 - e) e = e := by
  cases hf : 1000001 - e with
  | zero => rfl
  | succ f => rw [mo_fr, h]; rfl
theorem mo_hol_ex (hd : Nat → Int32) (x : Int32) : ∀ (f k : Nat) (b : Bool), mo_hol hd x f k b = true ↔ (b = true ∨ ∃ j, k ≤ j ∧ j < k + f ∧ hd j = x) := by
  intro f
  induction f with
  | zero =>
    intro k b
    rw [mo_hol]
    constructor
    · exact Or.inl
    · rintro (h | ⟨j, h1, h2, _⟩)
      · exact h
      · omega
  | succ f ih =>
    intro k b
    rw [mo_hol, ih]
    constructor
    · rintro (h | ⟨j, h1, h2, h3⟩)
      · rw [Bool.or_eq_true, decide_eq_true_eq] at h
        rcases h with h | h
        · exact Or.inl h
        · exact Or.inr ⟨k, Nat.le_refl _, by omega, h⟩
      · exact Or.inr ⟨j, by omega, by omega, h3⟩
    · rintro (h | ⟨j, h1, h2, h3⟩)
      · left; rw [h]; rfl
      · by_cases hj : j = k
        · left; subst hj; rw [Bool.or_eq_true, decide_eq_true_eq]; exact Or.inr h3
        · exact Or.inr ⟨j, by omega, by omega, h3⟩
theorem mo_hol_le {hd : Nat → Int32} {hc e : Nat} (he : e < 2 ^ 31) (hh : ∀ k, k < hc → hd k ≤ 1000000) (h : mo_hol hd (nI e) hc 0 false = true) : e ≤ 1000000 := by
  rcases (mo_hol_ex hd (nI e) hc 0 false).mp h with h | ⟨j, _, h2, h3⟩
  · cases h
  · have := hh j (by omega)
    rw [h3] at this
    exact (nI_leI (b := 1000000) he (by omega)).mp this
abbrev mo_T : Type := Nat × (Nat → Int32) × (Nat → Int32) × (Nat → Int32) × (Nat → Int32) × (Nat → Int32) × (Nat → Int32)
def mo_ps (pq : Nat) (M : mo_T) (nx st ex ct : Nat) : mo_T := (M.1 + 1, upd M.2.1 M.1 (nI st), upd M.2.2.1 M.1 (nI ex), upd M.2.2.2.1 M.1 (nI nx), upd M.2.2.2.2.1 M.1 (bo_I (decide (ct = 2))), upd M.2.2.2.2.2.1 M.1 (nI pq), upd M.2.2.2.2.2.2 M.1 (-1))
/-- fuel, made, step, next number, the list -/
def mo_go (pq sd : Nat) (mo : Int32) (jo : Nat) (hd : Nat → Int32) (hc : Nat) : Nat → Nat → Nat → Nat → mo_T → mo_T
  | 0, _, _, _, M => M
  | f + 1, k, x, nx, M => match pt_sw sd mo x 1800 x with
      | none => M
      | some s => if 1000000 < mo_fr hd hc (1000001 - s) s then M else mo_go pq sd mo jo hd hc f (k + 1) (s + sd) (nx + pt_nums jo (k + 1)) (mo_ps pq M nx s (mo_fr hd hc (1000001 - s) s) (pt_nums jo (k + 1)))
theorem mo_go_go {pq sd : Nat} {mo : Int32} {jo : Nat} {hd : Nat → Int32} {hc nn k x nx : Nat} {M : mo_T} (hk : k < nn) : mo_go pq sd mo jo hd hc (nn - k) k x nx M = match pt_sw sd mo x 1800 x with
      | none => M
      | some s => if 1000000 < mo_fr hd hc (1000001 - s) s then M else mo_go pq sd mo jo hd hc (nn - (k + 1)) (k + 1) (s + sd) (nx + pt_nums jo (k + 1)) (mo_ps pq M nx s (mo_fr hd hc (1000001 - s) s) (pt_nums jo (k + 1))) := by
  obtain ⟨f, hf⟩ : ∃ f, nn - k = f + 1 := ⟨nn - k - 1, by omega⟩
  rw [hf, show nn - (k + 1) = f by omega, mo_go]
theorem mo_go_0 {pq sd : Nat} {mo : Int32} {jo : Nat} {hd : Nat → Int32} {hc nn k x nx : Nat} {M : mo_T} (hk : nn ≤ k) : mo_go pq sd mo jo hd hc (nn - k) k x nx M = M := by
  rw [show nn - k = 0 by omega, mo_go]
def mo_rng (z : Int32) : Bool := decide (1 ≤ z) && decide (z ≤ 100)
theorem mo_rng_of {z : Int32} (h1 : ¬ z < 1) (h2 : ¬ 100 < z) : ∃ j : Nat, (1 ≤ j ∧ j ≤ 100 ∧ mo_rng z = true) ∧ nI j = z := by
  have g1 := Int32.not_lt.mp h1
  have g2 := Int32.not_lt.mp h2
  have hb : mo_rng z = true := by simp only [mo_rng, Bool.and_eq_true, decide_eq_true_eq]; exact ⟨g1, g2⟩
  rw [Int32.le_iff_toInt_le] at g1 g2
  simp only [Int32.reduceToInt] at g1 g2
  obtain ⟨j, hj, e⟩ := nI_of (x := z) (by rw [Int32.lt_iff_toInt_lt]; simp only [Int32.reduceToInt]; omega)
  subst e
  rw [nI_toInt hj] at g1 g2
  exact ⟨j, ⟨by omega, by omega, hb⟩, rfl⟩
theorem mo_rng_no {z : Int32} (h : z < 1 ∨ 100 < z) : mo_rng z = false := by
  simp only [mo_rng, Bool.and_eq_false_iff, decide_eq_false_iff_not]
  rcases h with h | h
  · exact Or.inl (Int32.not_le.mpr h)
  · exact Or.inr (Int32.not_le.mpr h)
def mo_n0 (nn : Nat → Nat) (tn : Nat → Bool) : Nat → Nat
  | 0 => 1
  | k + 1 => nn k + cond (tn k) 2 1
