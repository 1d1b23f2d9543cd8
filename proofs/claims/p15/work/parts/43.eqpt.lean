/-! class and reference agree: the first clauses -/
theorem pa_jo {t : Nat → Int32} {n f la q : Nat} {wr nu mo : Int32} (hs : rd_sp t n q = true) (hw : mo_w t n (q + 1) = wd_code 5) (hla : la < 2) : pa_o (mo_lp t n (f + 4) la q wr mo 0 0 false) = ca_2 t n q nu mo := by
  have hlt := pa_sp_lt hs
  have hle := (mo_e_le (t := t) (p := q + 1) (n := n) (by omega)).2
  have e : mo_pt (mo_w t n (q + 1)) = 2 := by
    rw [hw, wd_codes.2.2.2.2.2.1]; decide
  rw [pa_lp_sp hs, e]
  have e1 : mo_nx t n (mo_lp t n (f + 3)) la (q + 1) wr mo 0 0 false 2 = cond (rd_sp t n (mo_e t n (q + 1)))
        (cond (rd_num t n 2 99 (mo_e t n (q + 1) + 1)) (mo_lp t n (f + 3) 2 (rd_end t n (mo_e t n (q + 1) + 1)) wr mo (nI (rd_val t n (mo_e t n (q + 1) + 1))) 0 false) (false, rd_end t n (mo_e t n (q + 1) + 1), nI (mo_e t n (q + 1) + 1), mo, 0, 0, false))
        (false, mo_e t n (q + 1), nI (mo_e t n (q + 1)), mo, 0, 0, false) := by
    unfold mo_nx; rw [if_neg (by omega)]; rfl
  rw [e1]
  cases hc : rd_let (rd_sg t n (mo_e t n (q + 1)))
  · have hw2 := pa_word' (by omega) (by omega) hw hc
    have he := (pa_word (by omega) hw2).2
    rw [ca_2, rd_c2, ps_next_w hs, hw2, cond_true, ← he]
    cases hs2 : rd_sp t n (mo_e t n (q + 1))
    · rfl
    · have hlt2 := pa_sp_lt hs2
      have hle2 := (rd_end_le (tx := t) (n := n) (p := mo_e t n (q + 1) + 1) (by omega)).2.1
      cases hn : rd_num t n 2 99 (mo_e t n (q + 1) + 1)
      · rfl
      · rw [cond_true, cond_true, cond_true, cond_true]
        exact pa_s2 hle2
  · rw [ps_sp_cap hc, ca_2_no (by rw [ps_next_w hs]; exact pa_word_cap (by omega) hc), ca_3_no (by rw [ps_next_w hs]; exact pa_word_cap (by omega) hc), decide_eq_false (by omega)]
    rfl
theorem pa_s1 {t : Nat → Int32} {n f q : Nat} {wr nu mo : Int32} (hq : q ≤ n) : pa_o (mo_lp t n (f + 4) 1 q wr mo 0 0 false) = ca_2 t n q nu mo := by
  cases hs : rd_sp t n q
  · rw [ca_2_no (ps_next_sp hs), ca_3_no (ps_next_sp hs)]
    by_cases h : q = n
    · rw [decide_eq_true h, pa_lp_end (by omega)]; rfl
    · rw [decide_eq_false h, pa_lp_no (by omega) hs]; rfl
  · have hlt := pa_sp_lt hs
    have no : rd_word t n (q + 1) (sv_w 5) (sv_len 5) = false → rd_word t n (q + 1) (sv_w 6) (sv_len 6) = false → ca_2 t n q nu mo = none := fun g h => by
      rw [ca_2_no (by rw [ps_next_w hs]; exact g), ca_3_no (by rw [ps_next_w hs]; exact h), decide_eq_false (by omega)]; rfl
    rcases pa_pt (mo_w t n (q + 1)) with ⟨e, hw⟩ | ⟨e, hw⟩ | ⟨e, hw⟩ | ⟨e, hw⟩ | ⟨e, _, hv, hw, _⟩
    · rw [pa_lp_sp hs, pa_nx_no (Or.inl (by omega)), no (ps_ne (by omega) (by omega) hw (by omega)) (ps_ne (by omega) (by omega) hw (by omega))]
    · exact pa_jo hs hw (by omega)
    · rw [ca_2_no (by rw [ps_next_w hs]; exact ps_ne (by omega) (by omega) hw (by omega))]
      exact pa_vol (f := f + 1) hs hw (by omega)
    · rw [pa_lp_sp hs, pa_nx_no (Or.inr ⟨e, by omega⟩), no (ps_ne (by omega) (by omega) hw (by omega)) (ps_ne (by omega) (by omega) hw (by omega))]
    · rw [pa_lp_sp hs, pa_nx_no (Or.inl (by omega)), no (pa_word_no (by omega) hv) (pa_word_no (by omega) hw)]
theorem pa_sk {t : Nat → Int32} {n f q : Nat} {wr nu : Int32} (hs : rd_sp t n q = true) (hw : mo_w t n (q + 1) = wd_code 4) : pa_o (mo_lp t n (f + 5) 0 q wr 0 0 0 false) = ca_1 t n q nu := by
  have hlt := pa_sp_lt hs
  have hle := (mo_e_le (t := t) (p := q + 1) (n := n) (by omega)).2
  have e : mo_pt (mo_w t n (q + 1)) = 1 := by
    rw [hw, wd_codes.2.2.2.2.1]; decide
  rw [pa_lp_sp hs, e]
  have e1 : mo_nx t n (mo_lp t n (f + 4)) 0 (q + 1) wr 0 0 0 false 1 = cond (rd_sp t n (mo_e t n (q + 1)))
        (cond (mo_sk t n 13 0 (mo_e t n (q + 1) + 1) wr 0).1
          (mo_lp t n (f + 4) 1 (mo_sk t n 13 0 (mo_e t n (q + 1) + 1) wr 0).2.1 (mo_sk t n 13 0 (mo_e t n (q + 1) + 1) wr 0).2.2.1 (mo_sk t n 13 0 (mo_e t n (q + 1) + 1) wr 0).2.2.2 0 0 false)
          (false, (mo_sk t n 13 0 (mo_e t n (q + 1) + 1) wr 0).2.1, (mo_sk t n 13 0 (mo_e t n (q + 1) + 1) wr 0).2.2.1, (mo_sk t n 13 0 (mo_e t n (q + 1) + 1) wr 0).2.2.2, 0, 0, false))
        (false, mo_e t n (q + 1), nI (mo_e t n (q + 1)), 0, 0, 0, false) := by
    unfold mo_nx; rw [if_neg (by omega)]; rfl
  rw [e1]
  cases hc : rd_let (rd_sg t n (mo_e t n (q + 1)))
  · have hw2 := pa_word' (by omega) (by omega) hw hc
    have he := (pa_word (by omega) hw2).2
    rw [ca_1, rd_c1, ps_next_w hs, hw2, cond_true, ← he]
    cases hs2 : rd_sp t n (mo_e t n (q + 1))
    · rfl
    · have hlt2 := pa_sp_lt hs2
      have hle2 := mo_sk_le t n 13 0 (mo_e t n (q + 1) + 1) wr 0 (by omega)
      obtain ⟨m1, m2⟩ := pa_mon (t := t) (n := n) 13 0 (mo_e t n (q + 1) + 1) nu wr 0 (by omega)
      rw [cond_true, cond_true, ← m1]
      cases hm : (rd_mon t n 13 0 (mo_e t n (q + 1) + 1) nu 0).1
      · rfl
      · obtain ⟨m3, m4⟩ := m2 hm
        rw [cond_true, cond_true, m3, m4]
        exact pa_s1 hle2
  · rw [ps_sp_cap hc, ca_1_no (by rw [ps_next_w hs]; exact pa_word_cap (by omega) hc), ca_2_no (by rw [ps_next_w hs]; exact pa_word_cap (by omega) hc), ca_3_no (by rw [ps_next_w hs]; exact pa_word_cap (by omega) hc), decide_eq_false (by omega)]
    rfl
/-- all clauses -/
theorem pa_s0 {t : Nat → Int32} {n f q : Nat} {wr nu : Int32} (hq : q ≤ n) : pa_o (mo_lp t n (f + 5) 0 q wr 0 0 0 false) = ca_1 t n q nu := by
  cases hs : rd_sp t n q
  · rw [ca_1_no (ps_next_sp hs), ca_2_no (ps_next_sp hs), ca_3_no (ps_next_sp hs)]
    by_cases h : q = n
    · rw [decide_eq_true h, pa_lp_end (by omega)]; rfl
    · rw [decide_eq_false h, pa_lp_no (by omega) hs]; rfl
  · have hlt := pa_sp_lt hs
    have no : rd_word t n (q + 1) (sv_w 4) (sv_len 4) = false → rd_word t n (q + 1) (sv_w 5) (sv_len 5) = false → rd_word t n (q + 1) (sv_w 6) (sv_len 6) = false → ca_1 t n q nu = none := fun k g h => by
      rw [ca_1_no (by rw [ps_next_w hs]; exact k), ca_2_no (by rw [ps_next_w hs]; exact g), ca_3_no (by rw [ps_next_w hs]; exact h), decide_eq_false (by omega)]; rfl
    rcases pa_pt (mo_w t n (q + 1)) with ⟨e, hw⟩ | ⟨e, hw⟩ | ⟨e, hw⟩ | ⟨e, hw⟩ | ⟨e, hu, hv, hw, _⟩
    · exact pa_sk hs hw
    · rw [ca_1_no (by rw [ps_next_w hs]; exact ps_ne (by omega) (by omega) hw (by omega))]
      exact pa_jo (f := f + 1) hs hw (by omega)
    · rw [ca_1_no (by rw [ps_next_w hs]; exact ps_ne (by omega) (by omega) hw (by omega)), ca_2_no (by rw [ps_next_w hs]; exact ps_ne (by omega) (by omega) hw (by omega))]
      exact pa_vol (f := f + 2) hs hw (by omega)
    · rw [pa_lp_sp hs, pa_nx_no (Or.inr ⟨e, by omega⟩), no (ps_ne (by omega) (by omega) hw (by omega)) (ps_ne (by omega) (by omega) hw (by omega)) (ps_ne (by omega) (by omega) hw (by omega))]
    · rw [pa_lp_sp hs, pa_nx_no (Or.inl (by omega)), no (pa_word_no (by omega) hu) (pa_word_no (by omega) hv) (pa_word_no (by omega) hw)]
