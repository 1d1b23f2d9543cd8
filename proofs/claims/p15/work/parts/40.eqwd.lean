/-! class and reference agree: words -/
def wd_v (c : Nat → Nat) : Nat → Nat
  | 0 => 0
  | j + 1 => wd_v c j * 32 + c j
theorem wd_uni {a b : Nat → Nat} : ∀ (l m : Nat), (∀ i, i < l → 1 ≤ a i ∧ a i ≤ 26) → (∀ i, i < m → 1 ≤ b i ∧ b i ≤ 26) → wd_v a l = wd_v b m → l = m ∧ ∀ i, i < l → a i = b i := by
  intro l
  induction l with
  | zero =>
    intro m _ hb h
    cases m with
    | zero => exact ⟨rfl, fun i hi => by omega⟩
    | succ m =>
      have := hb m (by omega)
      rw [wd_v, wd_v] at h
      omega
  | succ l ih =>
    intro m ha hb h
    have h1 := ha l (by omega)
    cases m with
    | zero =>
      rw [wd_v, wd_v] at h
      omega
    | succ m =>
      have h2 := hb m (by omega)
      rw [wd_v, wd_v] at h
      have e1 : a l = b m := by omega
      obtain ⟨e2, e3⟩ := ih m (fun i hi => ha i (by omega)) (fun i hi => hb i (by omega)) (by omega)
      refine ⟨by omega, fun i hi => ?_⟩
      by_cases hil : i = l
      · rw [hil, e1, e2]
      · exact e3 i (by omega)
theorem wd_cg {a b : Nat → Nat} : ∀ (l : Nat), (∀ j, j < l → a j = b j) → wd_v a l = wd_v b l := by
  intro l
  induction l with
  | zero => intro _; rfl
  | succ l ih =>
    intro h
    rw [wd_v, wd_v, ih (fun j hj => h j (by omega)), h l (by omega)]
theorem wd_ub {c : Nat → Nat} : ∀ (j : Nat), (∀ i, i < j → c i ≤ 26) → wd_v c j + 1 ≤ 32 ^ j := by
  intro j
  induction j with
  | zero => intro _; exact Nat.le_refl _
  | succ j ih =>
    intro h
    have h1 := ih (fun i hi => h i (by omega))
    have h2 := h j (by omega)
    rw [wd_v, Nat.pow_succ]
    omega
theorem wd_ub10 {c : Nat → Nat} {j : Nat} (hj : j ≤ 10) (h : ∀ i, i < j → c i ≤ 26) : wd_v c j < 2 ^ 50 := by
  have h1 := wd_ub j h
  have h2 : 32 ^ j ≤ 32 ^ 10 := Nat.pow_le_pow_right (by omega) hj
  have h3 : 32 ^ 10 = 2 ^ 50 := by decide
  omega
theorem wd_let {x : Int32} (h : mo_let x = true) : ∃ c, 97 ≤ c ∧ c ≤ 122 ∧ x = nI c := by
  simp only [mo_let, Bool.and_eq_true, decide_eq_true_eq] at h
  obtain ⟨h1, h2⟩ := h
  obtain ⟨j, hj, rfl⟩ := nI_of (x := x) (by
    rw [Int32.lt_iff_toInt_lt]; rw [Int32.le_iff_toInt_le] at h1
    simp only [Int32.reduceToInt] at *; omega)
  exact ⟨j, (nI_leI (a := 97) (by omega) hj).mp h1, (nI_leI (b := 122) hj (by omega)).mp h2, rfl⟩
/-- the letter at place p + j, from 1 on -/
def wd_c (t : Nat → Int32) (n p j : Nat) : Nat := (rd_sg t n (p + j)).toNatClampNeg - 96
theorem wd_c_in {t : Nat → Int32} {n p j : Nat} (h : mo_let (rd_sg t n (p + j)) = true) : 1 ≤ wd_c t n p j ∧ wd_c t n p j ≤ 26 ∧ rd_sg t n (p + j) = nI (96 + wd_c t n p j) := by
  obtain ⟨c, h1, h2, h3⟩ := wd_let h
  unfold wd_c
  rw [h3, nI_clamp (by omega)]
  exact ⟨by omega, by omega, by rw [show 96 + (c - 96) = c by omega]⟩
def wd_s (t : Nat → Int32) (n p j : Nat) : Int64 := if j ≤ 10 then lN (wd_v (wd_c t n p) j) else (-1)
theorem wd_step {t : Nat → Int32} {n p j : Nat} (hl : ∀ i, i < j + 1 → mo_let (rd_sg t n (p + i)) = true) : (if 9 < p + j - p then (-1) else if wd_s t n p j < 0 then wd_s t n p j else wd_s t n p j * 32 + (rd_sg t n (p + j)).toInt64 - 96) = wd_s t n p (j + 1) := by
  rw [Nat.add_sub_cancel_left]
  by_cases h : 9 < j
  · rw [if_pos h, wd_s, if_neg (by omega)]
  · have hu := wd_ub10 (c := wd_c t n p) (j := j) (by omega) (fun i hi => (wd_c_in (hl i (by omega))).2.1)
    obtain ⟨c1, c2, c3⟩ := wd_c_in (hl j (by omega))
    have e1 : wd_s t n p j = lN (wd_v (wd_c t n p) j) := if_pos (by omega)
    have e2 : wd_s t n p (j + 1) = lN (wd_v (wd_c t n p) (j + 1)) := if_pos (by omega)
    have hn : ¬ lN (wd_v (wd_c t n p) j) < 0 := by
      rw [Int64.lt_iff_toInt_lt]
      have : (lN (wd_v (wd_c t n p) j)).toInt = (wd_v (wd_c t n p) j : Int) := lg_ofNat_toInt (by omega)
      rw [this]
      simp only [Int64.reduceToInt]
      omega
    rw [if_neg h, e1, e2, if_neg hn, c3, nI_l (by omega)]
    show lN (wd_v (wd_c t n p) j) * lN 32 + lN (96 + wd_c t n p j) - lN 96 = lN (wd_v (wd_c t n p) j * 32 + wd_c t n p j)
    rw [lN_mul, lN_add, lN_sub (by omega)]
    exact congrArg lN (by omega)
theorem wd_wd {t : Nat → Int32} {n p : Nat} : ∀ (f j : Nat), (∀ i, i < j → mo_let (rd_sg t n (p + i)) = true) → mo_wd t n p f (p + j) (wd_s t n p j) = wd_s t n p (mo_en t n f (p + j) - p) := by
  intro f
  induction f with
  | zero =>
    intro j _
    rw [mo_wd, mo_en, Nat.add_sub_cancel_left]
  | succ f ih =>
    intro j hl
    rw [mo_wd, mo_en]
    cases h : mo_let (rd_sg t n (p + j)) with
    | false => rw [cond_false, cond_false, Nat.add_sub_cancel_left]
    | true =>
      have hl2 : ∀ i, i < j + 1 → mo_let (rd_sg t n (p + i)) = true := fun i hi => by
        by_cases hij : i = j
        · rw [hij]; exact h
        · exact hl i (by omega)
      rw [cond_true, cond_true, wd_step hl2]
      exact ih (j + 1) hl2
theorem wd_w (t : Nat → Int32) (n p : Nat) : mo_w t n p = wd_s t n p (mo_e t n p - p) := wd_wd (t := t) (n := n) (p := p) (n - p) 0 (fun i hi => by omega)
theorem wd_sg_n {t : Nat → Int32} {n k : Nat} (h : n ≤ k) : mo_let (rd_sg t n k) = false := by
  rw [rd_sg, if_neg (by omega)]; decide
theorem wd_en {t : Nat → Int32} {n : Nat} : ∀ (f k : Nat), n ≤ k + f → k ≤ mo_en t n f k ∧ (∀ i, k ≤ i → i < mo_en t n f k → mo_let (rd_sg t n i) = true) ∧ mo_let (rd_sg t n (mo_en t n f k)) = false := by
  intro f
  induction f with
  | zero =>
    intro k h
    exact ⟨Nat.le_refl _, fun i a b => absurd (show i < k from b) (by omega), wd_sg_n (show n ≤ k by omega)⟩
  | succ f ih =>
    intro k h
    rw [mo_en]
    cases hl : mo_let (rd_sg t n k) with
    | false => exact ⟨Nat.le_refl _, fun i a b => absurd (show i < k from b) (by omega), hl⟩
    | true =>
      obtain ⟨h1, h2, h3⟩ := ih (k + 1) (by omega)
      refine ⟨by rw [cond_true]; omega, fun i a b => ?_, h3⟩
      by_cases hik : i = k
      · rw [hik]; exact hl
      · exact h2 i (by omega) b
theorem wd_en_at {t : Nat → Int32} {n p L : Nat} (hl : ∀ i, i < L → mo_let (rd_sg t n (p + i)) = true) (hn : mo_let (rd_sg t n (p + L)) = false) : mo_e t n p = p + L := by
  obtain ⟨h1, h2, h3⟩ := wd_en (t := t) (n := n) (n - p) p (by omega)
  rcases Nat.lt_trichotomy (mo_en t n (n - p) p) (p + L) with h | h | h
  · have := hl (mo_en t n (n - p) p - p) (by omega)
    rw [show p + (mo_en t n (n - p) p - p) = mo_en t n (n - p) p by omega, h3] at this
    cases this
  · exact h
  · have := h2 (p + L) (by omega) h
    rw [hn] at this
    cases this
def wd_b (i j : Nat) : Nat := (sv_w i j).toNatClampNeg - 96
theorem wd_sv : ∀ i, i < 8 → ∀ j, j < sv_len i → 97 ≤ (sv_w i j).toNatClampNeg ∧ (sv_w i j).toNatClampNeg ≤ 122 ∧ sv_w i j = nI (sv_w i j).toNatClampNeg ∧ mo_let (sv_w i j) = true := by decide +kernel
theorem wd_svl : ∀ i, i < 8 → sv_len i ≤ 7 ∧ 1 ≤ sv_len i := by decide +kernel
def wd_code (i : Nat) : Int64 := lN (wd_v (wd_b i) (sv_len i))
theorem wd_codes : wd_code 0 = 5969497 ∧ wd_code 1 = 132915 ∧ wd_code 2 = 24286579 ∧ wd_code 3 = 452415763 ∧ wd_code 4 = 634160 ∧ wd_code 5 = 351582372 ∧ wd_code 6 = 754341285 ∧ wd_code 7 = 19515704916 := by decide +kernel
/-- the word's number says the word -/
theorem eq_wd {t : Nat → Int32} {n p i : Nat} (hi : i < 8) : mo_w t n p = wd_code i ↔ mo_e t n p = p + sv_len i ∧ rd_eqw t n p (sv_w i) (sv_len i) = true := by
  obtain ⟨h1, h2, h3⟩ := wd_en (t := t) (n := n) (n - p) p (by omega)
  have hs := wd_svl i hi
  have hbi : ∀ j, j < sv_len i → 1 ≤ wd_b i j ∧ wd_b i j ≤ 26 := fun j hj => by
    have := wd_sv i hi j hj
    unfold wd_b; omega
  have hbu := wd_ub10 (c := wd_b i) (j := sv_len i) (by omega) (fun j hj => (hbi j hj).2)
  rw [wd_w]
  constructor
  · intro h
    have hle : p ≤ mo_e t n p := h1
    have hlt : ∀ j, j < mo_e t n p - p → mo_let (rd_sg t n (p + j)) = true := fun j hj => h2 (p + j) (by omega) (show p + j < mo_e t n p by omega)
    have hci : ∀ j, j < mo_e t n p - p → 1 ≤ wd_c t n p j ∧ wd_c t n p j ≤ 26 := fun j hj => ⟨(wd_c_in (hlt j hj)).1, (wd_c_in (hlt j hj)).2.1⟩
    have hcode : (wd_code i).toInt = (wd_v (wd_b i) (sv_len i) : Int) := lg_ofNat_toInt (by omega)
    by_cases h10 : mo_e t n p - p ≤ 10
    · rw [wd_s, if_pos h10] at h
      have hu := wd_ub10 (c := wd_c t n p) h10 (fun j hj => (hci j hj).2)
      have e1 : (lN (wd_v (wd_c t n p) (mo_e t n p - p))).toInt = (wd_v (wd_c t n p) (mo_e t n p - p) : Int) := lg_ofNat_toInt (by omega)
      have e2 := congrArg Int64.toInt h
      rw [e1, hcode] at e2
      obtain ⟨e3, e4⟩ := wd_uni (a := wd_c t n p) (b := wd_b i) _ _ hci hbi (by omega)
      refine ⟨by omega, decide_eq_true (fun j hj => ?_)⟩
      obtain ⟨_, _, c3⟩ := wd_c_in (hlt j (by omega))
      have e5 := e4 j (by omega)
      obtain ⟨s1, s2, s3, _⟩ := wd_sv i hi j hj
      rw [c3, e5, s3]
      unfold wd_b
      rw [show 96 + ((sv_w i j).toNatClampNeg - 96) = (sv_w i j).toNatClampNeg by omega]
    · rw [wd_s, if_neg h10] at h
      have e2 := congrArg Int64.toInt h
      rw [hcode] at e2
      have : (-1 : Int64).toInt = -1 := by decide
      omega
  · rintro ⟨e1, e2⟩
    have e3 : ∀ j, j < sv_len i → rd_sg t n (p + j) = sv_w i j := of_decide_eq_true e2
    rw [show mo_e t n p - p = sv_len i by omega, wd_s, if_pos (by omega), wd_code]
    exact congrArg lN (wd_cg _ (fun j hj => by unfold wd_c wd_b; rw [e3 j hj]))
