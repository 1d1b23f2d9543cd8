/-! class and reference agree: the clauses -/
theorem ps_next_sp {t : Nat → Int32} {n q : Nat} {w : Nat → Int32} {L : Nat} (h : rd_sp t n q = false) : rd_next t n q w L = false := by
  rw [rd_next, h, Bool.false_and]
theorem ps_next_w {t : Nat → Int32} {n q : Nat} {w : Nat → Int32} {L : Nat} (h : rd_sp t n q = true) : rd_next t n q w L = rd_word t n (q + 1) w L := by
  rw [rd_next, h, Bool.true_and]
theorem ps_ne {t : Nat → Int32} {n p i j : Nat} (hi : i < 8) (hj : j < 8) (h : mo_w t n p = wd_code i) (hij : j ≠ i) : rd_word t n p (sv_w j) (sv_len j) = false :=
  pa_word_no hj (fun e => hij (pa_codes j hj i hi (e.symm.trans h)))
theorem ps_sp_cap {t : Nat → Int32} {n k : Nat} (h : rd_let (rd_sg t n k) = true) : rd_sp t n k = false :=
  Bool.eq_false_iff.mpr fun z => by rw [pa_sp_let z] at h; cases h
/-- behind the volume's number -/
theorem pa_s3 {t : Nat → Int32} {n f q : Nat} {wr mo jo vo : Int32} (hq : q ≤ n) : pa_o (mo_lp t n (f + 2) 3 q wr mo jo vo false) = cond (rd_next t n q (sv_w 7) (sv_len 7)) (cond (decide (q + 1 + sv_len 7 = n)) (some (mo, jo, vo, true)) none) (cond (decide (q = n)) (some (mo, jo, vo, false)) none) := by
  cases hs : rd_sp t n q
  · rw [ps_next_sp hs, cond_false]
    by_cases h : q = n
    · rw [decide_eq_true h, pa_lp_end (by omega)]; rfl
    · rw [decide_eq_false h, pa_lp_no (by omega) hs]; rfl
  · have hlt := pa_sp_lt hs
    rw [ps_next_w hs, pa_lp_sp hs, decide_eq_false (show ¬ q = n by omega), cond_false]
    rcases pa_pt (mo_w t n (q + 1)) with ⟨e, hw⟩ | ⟨e, hw⟩ | ⟨e, hw⟩ | ⟨e, hw⟩ | ⟨e, _, _, _, hw⟩
    · rw [pa_nx_no (Or.inl (by omega)), ps_ne (by omega) (by omega) hw (by omega)]; rfl
    · rw [pa_nx_no (Or.inl (by omega)), ps_ne (by omega) (by omega) hw (by omega)]; rfl
    · rw [pa_nx_no (Or.inl (by omega)), ps_ne (by omega) (by omega) hw (by omega)]; rfl
    · rw [e]
      have e1 : mo_nx t n (mo_lp t n (f + 1)) 3 (q + 1) wr mo jo vo false 4 = mo_lp t n (f + 1) 4 (mo_e t n (q + 1)) wr mo jo vo true := by
        unfold mo_nx; rw [if_neg (by omega)]; rfl
      have hle := (mo_e_le (t := t) (p := q + 1) (n := n) (by omega)).2
      rw [e1, pa_s4 hle]
      cases hc : rd_let (rd_sg t n (mo_e t n (q + 1)))
      · have hw2 := pa_word' (by omega) (by omega) hw hc
        rw [hw2, cond_true, (pa_word (by omega) hw2).2]
      · rw [pa_word_cap (by omega) hc, cond_false, decide_eq_false (fun z => by rw [pa_end_let (by omega)] at hc; cases hc)]; rfl
    · rw [pa_nx_no (Or.inl (by omega)), pa_word_no (by omega) hw]; rfl
/-- what the class finds from the third clause on, from the second, from the first -/
def ca_3 (t : Nat → Int32) (n q : Nat) (nu mo jo : Int32) : Option (Int32 × Int32 × Int32 × Bool) :=
  cond (rd_c3 t n q nu 0 false).1 (cond (decide ((rd_c3 t n q nu 0 false).2.1 = n)) (some (mo, jo, (rd_c3 t n q nu 0 false).2.2.2)) none) none
def ca_2 (t : Nat → Int32) (n q : Nat) (nu mo : Int32) : Option (Int32 × Int32 × Int32 × Bool) :=
  cond (rd_c2 t n q nu 0).1 (ca_3 t n (rd_c2 t n q nu 0).2.1 (rd_c2 t n q nu 0).2.2.1 mo (rd_c2 t n q nu 0).2.2.2) none
def ca_1 (t : Nat → Int32) (n q : Nat) (nu : Int32) : Option (Int32 × Int32 × Int32 × Bool) :=
  cond (rd_c1 t n q nu 0).1 (ca_2 t n (rd_c1 t n q nu 0).2.1 (rd_c1 t n q nu 0).2.2.1 (rd_c1 t n q nu 0).2.2.2) none
theorem ca_3_no {t : Nat → Int32} {n q : Nat} {nu mo jo : Int32} (h : rd_next t n q (sv_w 6) (sv_len 6) = false) : ca_3 t n q nu mo jo = cond (decide (q = n)) (some (mo, jo, 0, false)) none := by
  have e : rd_c3 t n q nu 0 false = (true, q, nu, 0, false) := by rw [rd_c3, h, cond_false]
  rw [ca_3, e]; rfl
theorem ca_2_no {t : Nat → Int32} {n q : Nat} {nu mo : Int32} (h : rd_next t n q (sv_w 5) (sv_len 5) = false) : ca_2 t n q nu mo = ca_3 t n q nu mo 0 := by
  have e : rd_c2 t n q nu 0 = (true, q, nu, 0) := by rw [rd_c2, h, cond_false]
  rw [ca_2, e]; rfl
theorem ca_1_no {t : Nat → Int32} {n q : Nat} {nu : Int32} (h : rd_next t n q (sv_w 4) (sv_len 4) = false) : ca_1 t n q nu = ca_2 t n q nu 0 := by
  have e : rd_c1 t n q nu 0 = (true, q, nu, 0) := by rw [rd_c1, h, cond_false]
  rw [ca_1, e]; rfl
/-- 'volume' -/
theorem pa_vol {t : Nat → Int32} {n f la q : Nat} {wr nu mo jo : Int32} (hs : rd_sp t n q = true) (hw : mo_w t n (q + 1) = wd_code 6) (hla : la < 3) : pa_o (mo_lp t n (f + 3) la q wr mo jo 0 false) = ca_3 t n q nu mo jo := by
  have hlt := pa_sp_lt hs
  have hle := (mo_e_le (t := t) (p := q + 1) (n := n) (by omega)).2
  have e : mo_pt (mo_w t n (q + 1)) = 3 := by
    rw [hw, wd_codes.2.2.2.2.2.2.1]; decide
  rw [pa_lp_sp hs, e]
  have e1 : mo_nx t n (mo_lp t n (f + 2)) la (q + 1) wr mo jo 0 false 3 = cond (rd_sp t n (mo_e t n (q + 1)))
        (cond (rd_num t n 1 99 (mo_e t n (q + 1) + 1)) (mo_lp t n (f + 2) 3 (rd_end t n (mo_e t n (q + 1) + 1)) wr mo jo (nI (rd_val t n (mo_e t n (q + 1) + 1))) false) (false, rd_end t n (mo_e t n (q + 1) + 1), nI (mo_e t n (q + 1) + 1), mo, jo, 0, false))
        (false, mo_e t n (q + 1), nI (mo_e t n (q + 1)), mo, jo, 0, false) := by
    unfold mo_nx; rw [if_neg (by omega)]; rfl
  rw [e1]
  cases hc : rd_let (rd_sg t n (mo_e t n (q + 1)))
  · have hw2 := pa_word' (by omega) (by omega) hw hc
    have he := (pa_word (by omega) hw2).2
    rw [ca_3, rd_c3, ps_next_w hs, hw2, cond_true, ← he]
    cases hs2 : rd_sp t n (mo_e t n (q + 1))
    · rfl
    · have hlt2 := pa_sp_lt hs2
      have hle2 := (rd_end_le (tx := t) (n := n) (p := mo_e t n (q + 1) + 1) (by omega)).2.1
      cases hn : rd_num t n 1 99 (mo_e t n (q + 1) + 1)
      · rfl
      · rw [cond_true, cond_true, cond_true, cond_true, pa_s3 hle2]
        cases rd_next t n (rd_end t n (mo_e t n (q + 1) + 1)) (sv_w 7) (sv_len 7) <;> rfl
  · rw [ps_sp_cap hc, ca_3_no (by rw [ps_next_w hs]; exact pa_word_cap (by omega) hc), decide_eq_false (by omega)]
    rfl
/-- behind 'joined' -/
theorem pa_s2 {t : Nat → Int32} {n f q : Nat} {wr nu mo jo : Int32} (hq : q ≤ n) : pa_o (mo_lp t n (f + 3) 2 q wr mo jo 0 false) = ca_3 t n q nu mo jo := by
  cases hs : rd_sp t n q
  · rw [ca_3_no (ps_next_sp hs)]
    by_cases h : q = n
    · rw [decide_eq_true h, pa_lp_end (by omega)]; rfl
    · rw [decide_eq_false h, pa_lp_no (by omega) hs]; rfl
  · have hlt := pa_sp_lt hs
    have no : rd_word t n (q + 1) (sv_w 6) (sv_len 6) = false → ca_3 t n q nu mo jo = none := fun h => by
      rw [ca_3_no (by rw [ps_next_w hs]; exact h), decide_eq_false (by omega)]; rfl
    rcases pa_pt (mo_w t n (q + 1)) with ⟨e, hw⟩ | ⟨e, hw⟩ | ⟨e, hw⟩ | ⟨e, hw⟩ | ⟨e, _, _, hw, _⟩
    · rw [pa_lp_sp hs, pa_nx_no (Or.inl (by omega)), no (ps_ne (by omega) (by omega) hw (by omega))]
    · rw [pa_lp_sp hs, pa_nx_no (Or.inl (by omega)), no (ps_ne (by omega) (by omega) hw (by omega))]
    · exact pa_vol hs hw (by omega)
    · rw [pa_lp_sp hs, pa_nx_no (Or.inr ⟨e, by omega⟩), no (ps_ne (by omega) (by omega) hw (by omega))]
    · rw [pa_lp_sp hs, pa_nx_no (Or.inl (by omega)), no (pa_word_no (by omega) hw)]
