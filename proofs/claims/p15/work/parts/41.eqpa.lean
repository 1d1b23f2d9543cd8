/-! class and reference agree: the parser's pieces -/
theorem pa_let_mo {x : Int32} (h : rd_let x = false) : mo_let x = false := by
  simp only [rd_let, Bool.or_eq_false_iff] at h
  exact h.1
theorem pa_sp_let {t : Nat → Int32} {n k : Nat} (h : rd_sp t n k = true) : rd_let (rd_sg t n k) = false := by
  rw [of_decide_eq_true h]; decide
theorem pa_end_let {t : Nat → Int32} {n k : Nat} (h : n ≤ k) : rd_let (rd_sg t n k) = false := by
  rw [rd_sg, if_neg (by omega)]; decide
theorem pa_sp_lt {t : Nat → Int32} {n k : Nat} (h : rd_sp t n k = true) : k < n := by
  by_cases hk : k < n
  · exact hk
  · have := of_decide_eq_true h
    rw [rd_sg, if_neg hk] at this
    exact absurd this (by decide)
/-- the class's word is the reference's -/
theorem pa_word {t : Nat → Int32} {n p i : Nat} (hi : i < 8) (h : rd_word t n p (sv_w i) (sv_len i) = true) : mo_w t n p = wd_code i ∧ mo_e t n p = p + sv_len i := by
  simp only [rd_word, Bool.and_eq_true, Bool.not_eq_true', decide_eq_true_eq] at h
  obtain ⟨h1, h2, h3⟩ := h
  have e3 : ∀ j, j < sv_len i → rd_sg t n (p + j) = sv_w i j := of_decide_eq_true h3
  have e : mo_e t n p = p + sv_len i := wd_en_at (fun j hj => by rw [e3 j hj]; exact (wd_sv i hi j hj).2.2.2) (pa_let_mo h2)
  exact ⟨(eq_wd hi).mpr ⟨e, h3⟩, e⟩
/-- the reference's word is the class's, but where a capital letter stands behind it -/
theorem pa_word' {t : Nat → Int32} {n p i : Nat} (hi : i < 8) (hp : p ≤ n) (h : mo_w t n p = wd_code i) (hl : rd_let (rd_sg t n (mo_e t n p)) = false) : rd_word t n p (sv_w i) (sv_len i) = true := by
  obtain ⟨e1, e2⟩ := (eq_wd hi).mp h
  have := (mo_e_le (t := t) hp).2
  simp only [rd_word, Bool.and_eq_true, Bool.not_eq_true', decide_eq_true_eq]
  exact ⟨by omega, by rw [← e1]; exact hl, e2⟩
theorem pa_word_no {t : Nat → Int32} {n p i : Nat} (hi : i < 8) (h : mo_w t n p ≠ wd_code i) : rd_word t n p (sv_w i) (sv_len i) = false :=
  Bool.eq_false_iff.mpr fun z => h (pa_word hi z).1
theorem pa_word_cap {t : Nat → Int32} {n p i : Nat} (hi : i < 8) (h : rd_let (rd_sg t n (mo_e t n p)) = true) : rd_word t n p (sv_w i) (sv_len i) = false :=
  Bool.eq_false_iff.mpr fun z => by
    have e := (pa_word hi z).2
    simp only [rd_word, Bool.and_eq_true, Bool.not_eq_true', decide_eq_true_eq] at z
    rw [e, z.2.1] at h
    cases h
theorem pa_codes : ∀ i, i < 8 → ∀ j, j < 8 → wd_code i = wd_code j → i = j := by decide +kernel
/-- months -/
theorem pa_mon {t : Nat → Int32} {n : Nat} : ∀ (f lo q : Nat) (nu wr mo : Int32), lo ≤ 12 → (rd_mon t n f lo q nu mo).1 = (mo_sk t n f lo q wr mo).1 ∧ ((rd_mon t n f lo q nu mo).1 = true → (rd_mon t n f lo q nu mo).2.1 = (mo_sk t n f lo q wr mo).2.1 ∧ (rd_mon t n f lo q nu mo).2.2.2 = (mo_sk t n f lo q wr mo).2.2.2) := by
  intro f
  induction f with
  | zero => intro lo q nu wr mo _; exact ⟨rfl, fun h => by cases h⟩
  | succ f ih =>
    intro lo q nu wr mo hlo
    rw [rd_mon, mo_sk]
    cases h0 : rd_num t n 0 11 q
    · have h1 : rd_num t n lo 11 q = false := by
        refine Bool.eq_false_iff.mpr fun z => ?_
        simp only [rd_num, Bool.and_eq_true, Bool.not_eq_true', decide_eq_true_eq] at z
        have : rd_num t n 0 11 q = true := by
          simp only [rd_num, Bool.and_eq_true, Bool.not_eq_true', decide_eq_true_eq]
          exact ⟨z.1, z.2.1, by omega, z.2.2.2⟩
        rw [h0] at this
        cases this
      rw [h1]
      exact ⟨rfl, fun h => by cases h⟩
    · have z := h0
      simp only [rd_num, Bool.and_eq_true, Bool.not_eq_true', decide_eq_true_eq] at z
      by_cases hl : lo ≤ rd_val t n q
      · have h1 : rd_num t n lo 11 q = true := by
          simp only [rd_num, Bool.and_eq_true, Bool.not_eq_true', decide_eq_true_eq]
          exact ⟨z.1, z.2.1, hl, z.2.2.2⟩
        rw [h1, cond_true, cond_true, if_pos hl]
        by_cases hc : rd_sg t n (rd_end t n q) = 44
        · rw [decide_eq_true hc, cond_true, if_pos hc]
          exact ih _ _ _ _ _ (by omega)
        · rw [decide_eq_false hc, cond_false, if_neg hc]
          exact ⟨rfl, fun _ => ⟨rfl, rfl⟩⟩
      · have h1 : rd_num t n lo 11 q = false := by
          refine Bool.eq_false_iff.mpr fun z => ?_
          simp only [rd_num, Bool.and_eq_true, Bool.not_eq_true', decide_eq_true_eq] at z
          omega
        rw [h1, cond_false, cond_true, if_neg hl]
        exact ⟨rfl, fun h => by cases h⟩
/-- what the reference found, if it is right -/
def pa_o (r : mo_R) : Option (Int32 × Int32 × Int32 × Bool) := cond r.1 (some r.2.2.2) none
theorem pa_o_ok {a : Nat} {b : Int32} {c : Int32 × Int32 × Int32 × Bool} : pa_o (true, a, b, c) = some c := rfl
theorem pa_o_no {a : Nat} {b : Int32} {c : Int32 × Int32 × Int32 × Bool} : pa_o (false, a, b, c) = none := rfl
theorem pa_lp_end {t : Nat → Int32} {n f la q : Nat} {wr mo jo vo : Int32} {re : Bool} (h : n ≤ q) : pa_o (mo_lp t n (f + 1) la q wr mo jo vo re) = some (mo, jo, vo, re) := by
  rw [mo_lp, if_pos h]; rfl
theorem pa_lp_no {t : Nat → Int32} {n f la q : Nat} {wr mo jo vo : Int32} {re : Bool} (h : q < n) (hs : rd_sp t n q = false) : pa_o (mo_lp t n (f + 1) la q wr mo jo vo re) = none := by
  rw [mo_lp, if_neg (by omega), hs]; rfl
theorem pa_lp_sp {t : Nat → Int32} {n f la q : Nat} {wr mo jo vo : Int32} {re : Bool} (hs : rd_sp t n q = true) : mo_lp t n (f + 1) la q wr mo jo vo re = mo_nx t n (mo_lp t n f) la (q + 1) wr mo jo vo re (mo_pt (mo_w t n (q + 1))) := by
  have := pa_sp_lt hs
  rw [mo_lp, if_neg (by omega), hs]; rfl
theorem pa_pt (w : Int64) : (mo_pt w = 1 ∧ w = wd_code 4) ∨ (mo_pt w = 2 ∧ w = wd_code 5) ∨ (mo_pt w = 3 ∧ w = wd_code 6) ∨ (mo_pt w = 4 ∧ w = wd_code 7) ∨ (mo_pt w = 0 ∧ w ≠ wd_code 4 ∧ w ≠ wd_code 5 ∧ w ≠ wd_code 6 ∧ w ≠ wd_code 7) := by
  obtain ⟨_, _, _, _, c4, c5, c6, c7⟩ := wd_codes
  rw [c4, c5, c6, c7]
  unfold mo_pt
  by_cases h1 : w = 634160
  · rw [if_pos h1]; exact Or.inl ⟨rfl, h1⟩
  · rw [if_neg h1]
    by_cases h2 : w = 351582372
    · rw [if_pos h2]; exact Or.inr (Or.inl ⟨rfl, h2⟩)
    · rw [if_neg h2]
      by_cases h3 : w = 754341285
      · rw [if_pos h3]; exact Or.inr (Or.inr (Or.inl ⟨rfl, h3⟩))
      · rw [if_neg h3]
        by_cases h4 : w = 19515704916
        · rw [if_pos h4]; exact Or.inr (Or.inr (Or.inr (Or.inl ⟨rfl, h4⟩)))
        · rw [if_neg h4]; exact Or.inr (Or.inr (Or.inr (Or.inr ⟨rfl, h1, h2, h3, h4⟩)))
theorem pa_nx_no {t : Nat → Int32} {n : Nat} {rec : Nat → Nat → Int32 → Int32 → Int32 → Int32 → Bool → mo_R} {la q : Nat} {wr mo jo vo : Int32} {re : Bool} {part : Nat} (h : part ≤ la ∨ (part = 4 ∧ ¬ la = 3)) : pa_o (mo_nx t n rec la q wr mo jo vo re part) = none := by
  unfold mo_nx; rw [if_pos h]; rfl
/-- behind 'restart' nothing may come -/
theorem pa_s4 {t : Nat → Int32} {n f q : Nat} {wr mo jo vo : Int32} {re : Bool} (hq : q ≤ n) : pa_o (mo_lp t n (f + 1) 4 q wr mo jo vo re) = cond (decide (q = n)) (some (mo, jo, vo, re)) none := by
  by_cases h : q = n
  · rw [decide_eq_true h, pa_lp_end (by omega)]; rfl
  · rw [decide_eq_false h]
    cases hs : rd_sp t n q
    · exact pa_lp_no (by omega) hs
    · rw [pa_lp_sp hs]
      refine pa_nx_no (Or.inl ?_)
      rcases pa_pt (mo_w t n (q + 1)) with ⟨e, _⟩ | ⟨e, _⟩ | ⟨e, _⟩ | ⟨e, _⟩ | ⟨e, _⟩ <;> omega
