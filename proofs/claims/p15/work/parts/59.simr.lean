/-! read keeps the relation -/
theorem eq_L_grow {P : List wz_Pr} {r : wz_Pr} {L : li_T} {M : mo_T} {pn nn : Nat → Nat} {tn : Nat → Bool} (h : eq_L (wp_vn P) (wp_rn P) P.length L M pn nn tn) : eq_L (wp_vn (P ++ [r])) (wp_rn (P ++ [r])) (P ++ [r]).length L M pn nn tn := by
  refine ⟨h.1, h.2.1, fun k hk => ?_⟩
  obtain ⟨f1, f2, f3, f4, f5, f6, f7, f8, f9, f10, f11, f12, f13, f14, f15⟩ := h.2.2 k hk
  have e : (P ++ [r])[pn k]? = P[pn k]? := List.getElem?_append_left f13
  have v1 : wp_vn (P ++ [r]) (pn k) = wp_vn P (pn k) := by unfold wp_vn; rw [e]
  have v2 : wp_rn (P ++ [r]) (pn k) = wp_rn P (pn k) := by unfold wp_rn; rw [e]
  unfold eq_E
  rw [v1, v2]
  exact ⟨f1, f2, f3, f4, f5, f6, f7, f8, f9, f10, f11, f12, by rw [List.length_append]; exact Nat.lt_succ_of_lt f13, f14, f15⟩
theorem eqP_upd {ks km kj kv kr kx kz : Nat → Int32} {q c : Nat} {r : wz_Pr} {v1 v2 v3 v4 v5 : Int32} (h : wz_eqP ks km kj kv kr kx kz q r) (hq : q ≠ c) : wz_eqP (upd ks c v1) (upd km c v2) (upd kj c v3) (upd kv c v4) (upd kr c v5) kx kz q r := by
  unfold wz_eqP
  rw [upd_ne _ _ hq, upd_ne _ _ hq, upd_ne _ _ hq, upd_ne _ _ hq, upd_ne _ _ hq]
  exact h
theorem s_read {x : wz_X} {u : wz_M} (h : wz_S x u) (a b : Nat) : wz_S (xs_read x a b).2 (ms_read u).2 := by
  obtain ⟨n, tx, ⟨pv, nu, st, mo, jo, vo, re⟩, P, pr, hc, hd, ns, fs, fe, fl, fn, ft, f2, fv, fp, fc⟩ := x
  obtain ⟨th, mn, tb, mpv, wr, ks, km, kj, kv, kr, kx, kz, cn, mhc, md, ⟨ms, gs, ge, gn, gt, gp, gc⟩, kp, pz⟩ := u
  obtain ⟨⟨a1, a2, a3, a4⟩, ⟨b1, b2, b3, b4⟩, c0, ⟨d1, d2⟩, pn, nn, tn, e0⟩ := h
  have e1 : ns = ms := e0.1
  have e2 : ns ≤ 100 := e0.2.1
  subst a2; subst b1; subst d1; subst e1
  subst a3
  have er := eq_read (t := by8 tb) (n := n) (nu := nu) (st := st) (wr := wr) (st' := ks P.length)
  rcases hu : (rd_und (by8 tb) n nu st).1 with _ | _
  · rcases hm : (mo_rs (by8 tb) n wr (ks P.length)).1 with _ | _
    · simp only [xs_read, ms_read, hu, hm, Bool.false_and, cond_false]
      exact ⟨⟨by omega, rfl, rfl, a4⟩, ⟨rfl, b2, b3, fun q r hq => ⟨(b4 q r hq).1, eqP_upd (b4 q r hq).2 (Nat.ne_of_lt (List.getElem?_eq_some_iff.mp hq).1)⟩⟩, c0, ⟨rfl, d2⟩, pn, nn, tn, e0⟩
    · rw [hu, hm] at er
      cases er
  · rcases hm : (mo_rs (by8 tb) n wr (ks P.length)).1 with _ | _
    · rw [hu, hm] at er
      cases er
    · rw [hu, hm, cond_true, cond_true] at er
      have er := Option.some.inj er
      by_cases h10 : P.length < 10
      · simp only [xs_read, ms_read, hu, hm, decide_eq_true h10, Bool.true_and, cond_true]
        obtain ⟨sd, jo9, vo9, u1, ⟨u2, u3⟩, u4, u5, u6, u7, u8⟩ := und_in hu
        have hpat : wz_okP (xn_pat a b n (by8 tb) (rd_und (by8 tb) n nu st)) := by
          show 1 ≤ (rd_und (by8 tb) n nu st).2.2.2.1.toNatClampNeg ∧ (rd_und (by8 tb) n nu st).2.2.2.1.toNatClampNeg ≤ 2970 ∧ (rd_und (by8 tb) n nu st).2.2.2.2.2.1.toNatClampNeg ≤ 99 ∧ (rd_und (by8 tb) n nu st).2.2.2.2.2.2.1.toNatClampNeg ≤ 99 ∧ ((rd_und (by8 tb) n nu st).2.2.2.2.2.2.2 = true → 0 < (rd_und (by8 tb) n nu st).2.2.2.2.2.2.1.toNatClampNeg) ∧ n ≤ 120
          rw [u1, u4, u6, nI_clamp (by omega), nI_clamp (by omega), nI_clamp (by omega)]
          exact ⟨u2, u3, u5, u7, u8, a1⟩
        have heq : wz_eqP (upd ks P.length (mo_ev (by8 tb) n 0 wr (ks P.length)).2.2.2) (upd km P.length (mo_rs (by8 tb) n wr (ks P.length)).2.2.2.1) (upd kj P.length (mo_rs (by8 tb) n wr (ks P.length)).2.2.2.2.1) (upd kv P.length (mo_rs (by8 tb) n wr (ks P.length)).2.2.2.2.2.1) (upd kr P.length (bo_I (mo_rs (by8 tb) n wr (ks P.length)).2.2.2.2.2.2)) (mo_cq tb (120 * P.length) n kx) (upd kz P.length (nI n)) P.length (xn_pat a b n (by8 tb) (rd_und (by8 tb) n nu st)) := by
          unfold wz_eqP
          rw [upd_eq, upd_eq, upd_eq, upd_eq, upd_eq, upd_eq]
          have z1 : (mo_ev (by8 tb) n 0 wr (ks P.length)).2.2.2 = (rd_und (by8 tb) n nu st).2.2.2.1 := congrArg (fun q => q.1) er.symm
          have z2 : (mo_rs (by8 tb) n wr (ks P.length)).2.2.2 = (rd_und (by8 tb) n nu st).2.2.2.2 := congrArg (fun q => q.2) er.symm
          rw [z1, z2]
          show (rd_und (by8 tb) n nu st).2.2.2.1 = nI (rd_und (by8 tb) n nu st).2.2.2.1.toNatClampNeg ∧ (rd_und (by8 tb) n nu st).2.2.2.2.1 = (rd_und (by8 tb) n nu st).2.2.2.2.1 ∧ (rd_und (by8 tb) n nu st).2.2.2.2.2.1 = nI (rd_und (by8 tb) n nu st).2.2.2.2.2.1.toNatClampNeg ∧ (rd_und (by8 tb) n nu st).2.2.2.2.2.2.1 = nI (rd_und (by8 tb) n nu st).2.2.2.2.2.2.1.toNatClampNeg ∧ bo_I (rd_und (by8 tb) n nu st).2.2.2.2.2.2.2 = bo_I (rd_und (by8 tb) n nu st).2.2.2.2.2.2.2 ∧ nI n = nI n ∧ ∀ j, j < n → (if j < n then by8 tb j else 0) = mo_cq tb (120 * P.length) n kx (120 * P.length + j) &&& 255
          rw [u1, u4, u6, nI_clamp (by omega), nI_clamp (by omega), nI_clamp (by omega)]
          refine ⟨rfl, rfl, rfl, rfl, rfl, rfl, fun j hj => ?_⟩
          unfold mo_cq
          rw [if_pos hj, if_pos ⟨by omega, by omega⟩, show 120 * P.length + j - 120 * P.length = j by omega]
          rfl
        have hbyte : ∀ j, vp_nar .byte (mo_cq tb (120 * P.length) n kx j) = mo_cq tb (120 * P.length) n kx j := by
          intro j
          unfold mo_cq
          split
          · exact a4 _
          · exact b3 _
        generalize xn_pat a b n (by8 tb) (rd_und (by8 tb) n nu st) = r at hpat heq ⊢
        refine ⟨⟨by omega, rfl, rfl, a4⟩, ⟨by rw [List.length_append]; rfl, by rw [List.length_append]; show P.length + 1 ≤ 10; omega, hbyte, fun q r' hq => ?_⟩, ?_, ⟨rfl, d2⟩, pn, nn, tn, eq_L_grow e0⟩
        · rcases Nat.lt_or_ge q P.length with hl | hg
          · rw [List.getElem?_append_left hl] at hq
            obtain ⟨g, p⟩ := b4 q r' hq
            refine ⟨g, ?_⟩
            obtain ⟨p1, p2, p3, p4, p5, p6, p7⟩ := eqP_upd (c := P.length) (v1 := (mo_ev (by8 tb) n 0 wr (ks P.length)).2.2.2) (v2 := (mo_rs (by8 tb) n wr (ks P.length)).2.2.2.1) (v3 := (mo_rs (by8 tb) n wr (ks P.length)).2.2.2.2.1) (v4 := (mo_rs (by8 tb) n wr (ks P.length)).2.2.2.2.2.1) (v5 := bo_I (mo_rs (by8 tb) n wr (ks P.length)).2.2.2.2.2.2) p (Nat.ne_of_lt hl)
            refine ⟨p1, p2, p3, p4, p5, by rw [upd_ne _ _ (Nat.ne_of_lt hl)]; exact p6, fun j hj => ?_⟩
            have hpn := okP_pn g
            unfold mo_cq
            rw [if_neg (by omega)]
            exact p7 j hj
          · have hq' := (List.getElem?_eq_some_iff.mp hq).1
            rw [List.length_append] at hq'
            have hq'' : q < P.length + 1 := hq'
            obtain rfl : q = P.length := by omega
            rw [List.getElem?_append_right (Nat.le_refl _), Nat.sub_self] at hq
            cases hq
            exact ⟨hpat, heq⟩
        · rcases c0 with c1 | ⟨r', c1, ⟨k, c2⟩, c3⟩
          · exact Or.inl c1
          · exact Or.inr ⟨r', c1, ⟨k, by rw [List.getElem?_append_left (List.getElem?_eq_some_iff.mp c2).1]; exact c2⟩, c3⟩
      · simp only [xs_read, ms_read, hu, hm, decide_eq_false h10, Bool.and_false, cond_true, cond_false]
        exact ⟨⟨by omega, rfl, rfl, a4⟩, ⟨rfl, b2, b3, fun q r hq => ⟨(b4 q r hq).1, eqP_upd (b4 q r hq).2 (Nat.ne_of_lt (List.getElem?_eq_some_iff.mp hq).1)⟩⟩, c0, ⟨rfl, d2⟩, pn, nn, tn, e0⟩
