/-! class and reference agree: what is read -/
theorem ca_und {t : Nat → Int32} {n : Nat} {nu st : Int32} : cond (rd_und t n nu st).1 (some (rd_und t n nu st).2.2.2) none = cond (rd_how t n 0 nu st).1 ((ca_1 t n (rd_how t n 0 nu st).2.1 (rd_how t n 0 nu st).2.2.1).map (fun x => ((rd_how t n 0 nu st).2.2.2, x))) none := by
  unfold rd_und
  generalize rd_how t n 0 nu st = h
  obtain ⟨b, p, u, s⟩ := h
  cases b
  · rfl
  · simp only [cond_true]
    unfold rd_cl ca_1
    generalize rd_c1 t n p u 0 = c1
    obtain ⟨b1, p1, u1, m1⟩ := c1
    cases b1
    · rfl
    · simp only [cond_true]
      unfold ca_2
      generalize rd_c2 t n p1 u1 0 = c2
      obtain ⟨b2, p2, u2, m2⟩ := c2
      cases b2
      · rfl
      · simp only [cond_true]
        unfold ca_3
        generalize rd_c3 t n p2 u2 0 false = c3
        obtain ⟨b3, p3, u3, m3, r3⟩ := c3
        cases b3
        · rfl
        · simp only [cond_true]
          cases decide (p3 = n) <;> rfl
theorem ca_rs {t : Nat → Int32} {n : Nat} {wr st : Int32} : cond (mo_rs t n wr st).1 (some ((mo_ev t n 0 wr st).2.2.2, (mo_rs t n wr st).2.2.2)) none = cond (mo_ev t n 0 wr st).1 ((pa_o (mo_lp t n 5 0 (mo_ev t n 0 wr st).2.1 (mo_ev t n 0 wr st).2.2.1 0 0 0 false)).map (fun x => ((mo_ev t n 0 wr st).2.2.2, x))) none := by
  unfold mo_rs pa_o
  generalize mo_ev t n 0 wr st = h
  obtain ⟨b, p, u, s⟩ := h
  cases b
  · rfl
  · simp only [cond_true]
    generalize mo_lp t n 5 0 p u 0 0 0 false = r
    obtain ⟨b1, r1⟩ := r
    cases b1 <;> rfl
/-- how often: both find it, or the class does not and the reference goes wrong there or right behind it -/
theorem pa_how {t : Nat → Int32} {n : Nat} {nu st wr st' : Int32} :
    ((rd_how t n 0 nu st).1 = true ∧ (mo_ev t n 0 wr st').1 = true ∧ (rd_how t n 0 nu st).2.1 = (mo_ev t n 0 wr st').2.1 ∧ (rd_how t n 0 nu st).2.1 ≤ n ∧ (rd_how t n 0 nu st).2.2.2 = (mo_ev t n 0 wr st').2.2.2)
    ∨ ((rd_how t n 0 nu st).1 = false ∧ ((mo_ev t n 0 wr st').1 = false ∨ ((mo_ev t n 0 wr st').2.1 < n ∧ rd_sp t n (mo_ev t n 0 wr st').2.1 = false))) := by
  obtain ⟨c0, c1, c2, c3, _⟩ := wd_codes
  by_cases h0 : mo_w t n 0 = 5969497
  · rw [← c0] at h0
    have hle := (mo_e_le (t := t) (p := 0) (n := n) (by omega)).2
    cases hc : rd_let (rd_sg t n (mo_e t n 0))
    · have hw := pa_word' (by omega) (by omega) h0 hc
      have he := (pa_word (by omega) hw).2
      unfold rd_how mo_ev
      rw [if_pos (by rw [h0, c0]), hw, ← he, cond_true]
      cases hs : rd_sp t n (mo_e t n 0)
      · exact Or.inr ⟨rfl, Or.inl rfl⟩
      · simp only [cond_true]
        cases hn : rd_num t n 1 99 (mo_e t n 0 + 1)
        · exact Or.inr ⟨rfl, Or.inl rfl⟩
        · simp only [cond_true]
          generalize hv : rd_val t n (mo_e t n 0 + 1) = v
          generalize hq : rd_end t n (mo_e t n 0 + 1) = q
          cases hs2 : rd_sp t n q
          · exact Or.inr ⟨rfl, Or.inl rfl⟩
          · simp only [cond_true]
            have hlt := pa_sp_lt hs2
            have hle2 := (mo_e_le (t := t) (p := q + 1) (n := n) (by omega)).2
            cases hc2 : rd_let (rd_sg t n (mo_e t n (q + 1)))
            · by_cases w1 : mo_w t n (q + 1) = 132915
              · have g := pa_word' (i := 1) (by omega) (by omega) (w1.trans c1.symm) hc2
                have ge := (pa_word (by omega) g).2
                rw [g, if_pos w1, ← ge, Nat.mul_one]
                exact Or.inl ⟨rfl, rfl, rfl, hle2, rfl⟩
              · rw [pa_word_no (i := 1) (by omega) (by rw [c1]; exact w1), if_neg w1]
                by_cases w2 : mo_w t n (q + 1) = 24286579
                · have g := pa_word' (i := 2) (by omega) (by omega) (w2.trans c2.symm) hc2
                  have ge := (pa_word (by omega) g).2
                  rw [g, if_pos w2, ← ge]
                  exact Or.inl ⟨rfl, rfl, rfl, hle2, rfl⟩
                · rw [pa_word_no (i := 2) (by omega) (by rw [c2]; exact w2), if_neg w2]
                  by_cases w3 : mo_w t n (q + 1) = 452415763
                  · have g := pa_word' (i := 3) (by omega) (by omega) (w3.trans c3.symm) hc2
                    have ge := (pa_word (by omega) g).2
                    rw [g, if_pos w3, ← ge]
                    exact Or.inl ⟨rfl, rfl, rfl, hle2, rfl⟩
                  · rw [pa_word_no (i := 3) (by omega) (by rw [c3]; exact w3), if_neg w3]
                    exact Or.inr ⟨rfl, Or.inl rfl⟩
            · have hr : mo_e t n (q + 1) < n := by
                by_cases h : mo_e t n (q + 1) < n
                · exact h
                · rw [pa_end_let (by omega)] at hc2; cases hc2
              rw [pa_word_cap (i := 1) (by omega) hc2, pa_word_cap (i := 2) (by omega) hc2, pa_word_cap (i := 3) (by omega) hc2]
              refine Or.inr ⟨rfl, ?_⟩
              split
              · exact Or.inr ⟨hr, ps_sp_cap hc2⟩
              · split
                · exact Or.inr ⟨hr, ps_sp_cap hc2⟩
                · split
                  · exact Or.inr ⟨hr, ps_sp_cap hc2⟩
                  · exact Or.inl rfl
    · unfold rd_how mo_ev
      rw [pa_word_cap (i := 0) (by omega) hc, if_pos (by rw [h0, c0]), ps_sp_cap hc]
      exact Or.inr ⟨rfl, Or.inl rfl⟩
  · unfold rd_how mo_ev
    rw [pa_word_no (i := 0) (by omega) (by rw [c0]; exact h0), if_neg h0]
    exact Or.inr ⟨rfl, Or.inl rfl⟩
/-- both read the same patterns -/
theorem eq_read {t : Nat → Int32} {n : Nat} {nu st wr st' : Int32} : cond (rd_und t n nu st).1 (some (rd_und t n nu st).2.2.2) none = cond (mo_rs t n wr st').1 (some ((mo_ev t n 0 wr st').2.2.2, (mo_rs t n wr st').2.2.2)) none := by
  rw [ca_und, ca_rs]
  rcases pa_how (t := t) (n := n) (nu := nu) (st := st) (wr := wr) (st' := st') with ⟨h1, h2, h3, h4, h5⟩ | ⟨h1, h2⟩
  · rw [h1, h2, cond_true, cond_true, h5, h3]
    rw [h3] at h4
    rw [pa_s0 (f := 0) (nu := (rd_how t n 0 nu st).2.2.1) h4]
  · rw [h1, cond_false]
    cases h3 : (mo_ev t n 0 wr st').1
    · rfl
    · rw [cond_true]
      rcases h2 with h2 | ⟨h2, h4⟩
      · rw [h2] at h3; cases h3
      · rw [pa_lp_no (f := 4) h2 h4]; rfl
