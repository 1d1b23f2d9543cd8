/-! class and reference side by side: the relation, and that every call keeps it -/
def wp_vn (P : List wz_Pr) (q : Nat) : Nat := match P[q]? with
  | some r => xr_vo r
  | none => 0
def wp_rn (P : List wz_Pr) (q : Nat) : Bool := match P[q]? with
  | some r => xr_re r
  | none => false
def wz_eqP (ks km kj kv kr kx kz : Nat → Int32) (q : Nat) (r : wz_Pr) : Prop :=
  ks q = nI (xr_sd r) ∧ km q = xr_mo r ∧ kj q = nI (xr_jo r) ∧ kv q = nI (xr_vo r) ∧ kr q = bo_I (xr_re r) ∧ kz q = nI r.2.2.1 ∧ ∀ j, j < r.2.2.1 → r.2.2.2.1 j = kx (120 * q + j) &&& 255
def wz_S (x : wz_X) (u : wz_M) : Prop := match x, u with
  | (n, tx, _, P, pr, hc, hd, L), (_, mn, tb, _, _, ks, km, kj, kv, kr, kx, kz, cn, mhc, md, M, kp, pz) =>
    (n ≤ 120 ∧ n = mn ∧ tx = by8 tb ∧ ∀ j, vp_nar .byte (tb j) = tb j) ∧
    (P.length = cn ∧ P.length ≤ 10 ∧ (∀ j, vp_nar .byte (kx j) = kx j) ∧ ∀ (q : Nat) (r : wz_Pr), P[q]? = some r → wz_okP r ∧ wz_eqP ks km kj kv kr kx kz q r) ∧
    ((pr = none ∧ pz = 0) ∨ ∃ r : wz_Pr, pr = some r ∧ (∃ k : Nat, P[k]? = some r) ∧ pz = r.2.2.1 ∧ ∀ j, j < r.2.2.1 → r.2.2.2.1 j = kp j &&& 255) ∧
    (hc = mhc ∧ eq_H hd md hc) ∧
    ∃ (pn nn : Nat → Nat) (tn : Nat → Bool), eq_L (wp_vn P) (wp_rn P) P.length L M pn nn tn
theorem wt_of {f : Nat → Int32} {q v : Nat} (h : f q = nI v) (hv : v < 2 ^ 31) : wt f q = v := by unfold wt; rw [h, nI_clamp hv]
theorem wb_of {f : Nat → Int32} {q : Nat} {b : Bool} (h : f q = bo_I b) : wb f q = b := by
  unfold wb
  rw [h]
  cases b <;> decide
theorem okP_pn {r : wz_Pr} (h : wz_okP r) : r.2.2.1 ≤ 120 := h.2.2.2.2.2
theorem S_ok {x : wz_X} {u : wz_M} (h : wz_S x u) : wz_ok x := by
  obtain ⟨n, tx, ⟨pv, nu, st, mo, jo, vo, re⟩, P, pr, hc, hd, ns, fs, fe, fl, fn, ft, f2, fv, fp, fc⟩ := x
  obtain ⟨th, mn, tb, mpv, wr, ks, km, kj, kv, kr, kx, kz, cn, mhc, md, ⟨ms, gs, ge, gn, gt, gp, gc⟩, kp, pz⟩ := u
  obtain ⟨⟨a1, a2, a3, a4⟩, ⟨b1, b2, b3, b4⟩, c0, ⟨d1, d2⟩, pn, nn, tn, e0⟩ := h
  have e1 : ns = ms := e0.1
  have e2 : ns ≤ 100 := e0.2.1
  subst a2; subst b1; subst d1; subst e1
  refine ⟨a1, b2, fun k r hk => (b4 k r hk).1, fun r hr => ?_, d2.1, e2, fun k hk => ?_⟩
  · rcases c0 with ⟨c1, -⟩ | ⟨r', c1, c2, -⟩
    · rw [c1] at hr; cases hr
    · rw [c1] at hr; cases hr; exact c2
  · obtain ⟨-, -, h3, -, -, -, -, -, -, -, -, -, -, h1, h2⟩ := e0.2.2 k hk
    refine ⟨nn k - 1 + cond (tn k) 2 1, ?_, h3⟩
    cases tn k
    · show nn k - 1 + 1 ≤ 1000; omega
    · show nn k - 1 + 2 ≤ 1000; omega
theorem S_mok {x : wz_X} {u : wz_M} (h : wz_S x u) : wm_ok u := by
  obtain ⟨n, tx, ⟨pv, nu, st, mo, jo, vo, re⟩, P, pr, hc, hd, ns, fs, fe, fl, fn, ft, f2, fv, fp, fc⟩ := x
  obtain ⟨th, mn, tb, mpv, wr, ks, km, kj, kv, kr, kx, kz, cn, mhc, md, ⟨ms, gs, ge, gn, gt, gp, gc⟩, kp, pz⟩ := u
  obtain ⟨⟨a1, a2, a3, a4⟩, ⟨b1, b2, b3, b4⟩, c0, ⟨d1, d2⟩, pn, nn, tn, e0⟩ := h
  have e1 : ns = ms := e0.1
  have e2 : ns ≤ 100 := e0.2.1
  subst a2; subst b1; subst d1; subst e1
  refine ⟨a1, b2, a4, b3, d2.1, d2.m, e2, ?_, fun q hq => ?_, fun k hk => ?_⟩
  · rcases c0 with ⟨-, c1⟩ | ⟨r', c1, ⟨k, c2⟩, c3, -⟩
    · rw [c1]; omega
    · rw [c3]; exact okP_pn (b4 k r' c2).1
  · obtain ⟨r, hr⟩ : ∃ r, P[q]? = some r := ⟨P[q], List.getElem?_eq_getElem hq⟩
    obtain ⟨⟨g1, g2, g3, g4, g5, g6⟩, p1, p2, p3, p4, p5, p6, -⟩ := b4 q r hr
    rw [wt_of p1 (by show xr_sd r < 2 ^ 31; exact Nat.lt_of_le_of_lt g2 (by decide)), wt_of p3 (Nat.lt_of_le_of_lt g3 (by decide)), wt_of p4 (Nat.lt_of_le_of_lt g4 (by decide)), wb_of p5, wt_of p6 (Nat.lt_of_le_of_lt g6 (by decide))]
    exact ⟨⟨p1, g1, g2⟩, ⟨p3, g3⟩, ⟨p4, g4⟩, ⟨p5, g5⟩, p6, g6⟩
  · obtain ⟨-, -, -, -, -, -, -, -, -, h10, h11, h12, h13, h14, h15⟩ := e0.2.2 k hk
    have h10 : gn k = nI (nn k) := h10
    have h11 : gt k = bo_I (tn k) := h11
    have h12 : gp k = nI (pn k) := h12
    rw [wt_of h12 (by omega), wt_of h10 (by omega), wb_of h11]
    exact ⟨⟨h12, h13⟩, ⟨h10, h14, by omega⟩, h11⟩
theorem s_sign {x : wz_X} {u : wz_M} (h : wz_S x u) (i1 : Int32) : wz_S (xs_sign x i1) (ms_sign u i1) := by
  obtain ⟨n, tx, ⟨pv, nu, st, mo, jo, vo, re⟩, P, pr, hc, hd, ns, fs, fe, fl, fn, ft, f2, fv, fp, fc⟩ := x
  obtain ⟨th, mn, tb, mpv, wr, ks, km, kj, kv, kr, kx, kz, cn, mhc, md, ⟨ms, gs, ge, gn, gt, gp, gc⟩, kp, pz⟩ := u
  obtain ⟨⟨a1, a2, a3, a4⟩, ⟨b1, b2, b3, b4⟩, c0, ⟨d1, d2⟩, pn, nn, tn, e0⟩ := h
  have e1 : ns = ms := e0.1
  have e2 : ns ≤ 100 := e0.2.1
  subst a2; subst b1; subst d1; subst e1
  refine ⟨⟨?_, rfl, ?_, ?_⟩, ⟨rfl, b2, b3, b4⟩, c0, ⟨rfl, d2⟩, pn, nn, tn, e0⟩
  · show (if n < 120 then n + 1 else n) ≤ 120
    split <;> omega
  · show (if n < 120 then upd tx n (i1 &&& 255) else tx) = by8 (if n < 120 then upd tb n i1.toInt8.toInt32 else tb)
    split
    · rw [eq_by8, a3]
    · exact a3
  · show ∀ j, vp_nar .byte ((if n < 120 then upd tb n i1.toInt8.toInt32 else tb) j) = (if n < 120 then upd tb n i1.toInt8.toInt32 else tb) j
    intro j
    split
    · by_cases hj : j = n
      · subst hj; rw [upd_eq]; exact pk_vb _
      · rw [upd_ne _ _ hj]; exact a4 j
    · exact a4 j
theorem s_issue {x : wz_X} {u : wz_M} (h : wz_S x u) (i1 i2 : Int32) : (xs_issue x i1 i2).1 = (ms_issue u i1 i2).1 ∧ wz_S (xs_issue x i1 i2).2 (ms_issue u i1 i2).2 := by
  obtain ⟨n, tx, ⟨pv, nu, st, mo, jo, vo, re⟩, P, pr, hc, hd, ns, fs, fe, fl, fn, ft, f2, fv, fp, fc⟩ := x
  obtain ⟨th, mn, tb, mpv, wr, ks, km, kj, kv, kr, kx, kz, cn, mhc, md, ⟨ms, gs, ge, gn, gt, gp, gc⟩, kp, pz⟩ := u
  obtain ⟨⟨a1, a2, a3, a4⟩, ⟨b1, b2, b3, b4⟩, c0, ⟨d1, d2⟩, pn, nn, tn, e0⟩ := h
  have e1 : ns = ms := e0.1
  have e2 : ns ≤ 100 := e0.2.1
  subst a2; subst b1; subst d1; subst e1
  refine ⟨?_, ⟨a1, rfl, a3, a4⟩, ⟨rfl, b2, b3, b4⟩, c0, ⟨rfl, d2⟩, pn, nn, tn, e0⟩
  refine (eq_iss e0 i1 i2).trans ?_
  show mo_iss ns gc pn nn (wp_vn P) (wp_rn P) tn i1 i2 = mo_iss ns gc (wt gp) (wt gn) (wt kv) (wb kr) (wb gt) i1 i2
  unfold mo_iss
  by_cases hh : li_has ns i1 = true
  · rw [if_pos hh, if_pos hh]
    obtain ⟨k, hk, rfl⟩ := li_has_of (by omega) hh
    rw [nI_clamp (by omega)]
    obtain ⟨-, -, -, -, -, -, -, -, -, h10, h11, h12, h13, h14, h15⟩ := e0.2.2 k hk
    have h10 : gn k = nI (nn k) := h10
    have h11 : gt k = bo_I (tn k) := h11
    have h12 : gp k = nI (pn k) := h12
    obtain ⟨⟨g1, g2, g3, g4, g5, g6⟩, p1, p2, p3, p4, p5, p6, -⟩ := b4 (pn k) _ (List.getElem?_eq_getElem h13)
    have q1 : wp_vn P (pn k) = xr_vo P[pn k] := by unfold wp_vn; rw [List.getElem?_eq_getElem h13]
    have q2 : wp_rn P (pn k) = xr_re P[pn k] := by unfold wp_rn; rw [List.getElem?_eq_getElem h13]
    rw [wt_of h12 (by omega), wt_of h10 (by omega), wb_of h11, q1, q2, wt_of p4 (Nat.lt_of_le_of_lt g4 (by decide)), wb_of p5]
  · rw [if_neg hh, if_neg hh]
theorem s_date {x : wz_X} {u : wz_M} (h : wz_S x u) (i1 : Int32) : (xs_date x i1).1 = (ms_date u i1).1 ∧ wz_S (xs_date x i1).2 (ms_date u i1).2 := by
  obtain ⟨n, tx, ⟨pv, nu, st, mo, jo, vo, re⟩, P, pr, hc, hd, ns, fs, fe, fl, fn, ft, f2, fv, fp, fc⟩ := x
  obtain ⟨th, mn, tb, mpv, wr, ks, km, kj, kv, kr, kx, kz, cn, mhc, md, ⟨ms, gs, ge, gn, gt, gp, gc⟩, kp, pz⟩ := u
  obtain ⟨⟨a1, a2, a3, a4⟩, ⟨b1, b2, b3, b4⟩, c0, ⟨d1, d2⟩, pn, nn, tn, e0⟩ := h
  have e1 : ns = ms := e0.1
  have e2 : ns ≤ 100 := e0.2.1
  subst a2; subst b1; subst d1; subst e1
  refine ⟨?_, ⟨a1, rfl, a3, a4⟩, ⟨rfl, b2, b3, b4⟩, c0, ⟨rfl, d2⟩, pn, nn, tn, e0⟩
  show cond (li_has ns i1) (fe i1.toNatClampNeg).toInt64 (-1) = cond (li_has ns i1) (ge i1.toNatClampNeg).toInt64 (-1)
  rcases hh : li_has ns i1 with _ | _
  · simp only [Bool.false_and, cond_false]
  · obtain ⟨k, hk, rfl⟩ := li_has_of (by omega) hh
    rw [nI_clamp (by omega)]
    have h2 : fe k = ge k := (e0.2.2 k hk).2.1.1
    rw [h2]
theorem s_late {x : wz_X} {u : wz_M} (h : wz_S x u) (i1 i2 : Int32) : (xs_late x i1 i2).1 = (ms_late u i1 i2).1 ∧ wz_S (xs_late x i1 i2).2 (ms_late u i1 i2).2 := by
  obtain ⟨n, tx, ⟨pv, nu, st, mo, jo, vo, re⟩, P, pr, hc, hd, ns, fs, fe, fl, fn, ft, f2, fv, fp, fc⟩ := x
  obtain ⟨th, mn, tb, mpv, wr, ks, km, kj, kv, kr, kx, kz, cn, mhc, md, ⟨ms, gs, ge, gn, gt, gp, gc⟩, kp, pz⟩ := u
  obtain ⟨⟨a1, a2, a3, a4⟩, ⟨b1, b2, b3, b4⟩, c0, ⟨d1, d2⟩, pn, nn, tn, e0⟩ := h
  have e1 : ns = ms := e0.1
  have e2 : ns ≤ 100 := e0.2.1
  subst a2; subst b1; subst d1; subst e1
  refine ⟨?_, ⟨a1, rfl, a3, a4⟩, ⟨rfl, b2, b3, b4⟩, c0, ⟨rfl, d2⟩, pn, nn, tn, e0⟩
  show cond (li_has ns i1 && mo_day i2) (mo_late fc fe i1.toNatClampNeg i2) (-1) = cond (li_has ns i1 && mo_day i2) (mo_late gc ge i1.toNatClampNeg i2) (-1)
  rcases hh : li_has ns i1 with _ | _
  · simp only [Bool.false_and, cond_false]
  · obtain ⟨k, hk, rfl⟩ := li_has_of (by omega) hh
    rw [nI_clamp (by omega)]
    have h2 : fe k = ge k := (e0.2.2 k hk).2.1.1
    have h9 : fc k = gc k := (e0.2.2 k hk).2.2.2.2.2.2.2.2.1.1
    unfold mo_late
    rw [h2, h9]
theorem s_claim {x : wz_X} {u : wz_M} (h : wz_S x u) (i1 i2 : Int32) : (xs_claim x i1 i2).1 = (ms_claim u i1 i2).1 ∧ wz_S (xs_claim x i1 i2).2 (ms_claim u i1 i2).2 := by
  obtain ⟨n, tx, ⟨pv, nu, st, mo, jo, vo, re⟩, P, pr, hc, hd, ns, fs, fe, fl, fn, ft, f2, fv, fp, fc⟩ := x
  obtain ⟨th, mn, tb, mpv, wr, ks, km, kj, kv, kr, kx, kz, cn, mhc, md, ⟨ms, gs, ge, gn, gt, gp, gc⟩, kp, pz⟩ := u
  obtain ⟨⟨a1, a2, a3, a4⟩, ⟨b1, b2, b3, b4⟩, c0, ⟨d1, d2⟩, pn, nn, tn, e0⟩ := h
  have e1 : ns = ms := e0.1
  have e2 : ns ≤ 100 := e0.2.1
  subst a2; subst b1; subst d1; subst e1
  refine ⟨?_, ⟨a1, rfl, a3, a4⟩, ⟨rfl, b2, b3, b4⟩, c0, ⟨rfl, d2⟩, pn, nn, tn, e0⟩
  exact eq_claim e2 (fun k hk => (e0.2.2 k hk).2.2.2.2.2.2.2.2.1.1) (fun k hk => (e0.2.2 k hk).2.1.1) (fun k hk => (e0.2.2 k hk).2.1.2) i1 i2
theorem s_out {n : Nat} {fc gc : Nat → Int32} (hn : n ≤ 100) (hc : ∀ k, k < n → fc k = gc k) (i1 i2 : Int32) : (li_out n fc i1 && mo_day i2) = (li_has n i1 && (mo_day i2 && decide (gc i1.toNatClampNeg = (-1)))) := by
  unfold li_out
  rcases hh : li_has n i1 with _ | _
  · rfl
  · obtain ⟨k, hk, rfl⟩ := li_has_of (by omega) hh
    rw [nI_clamp (by omega), hc k hk, Bool.true_and, Bool.true_and, Bool.and_comm]
theorem s_irregular {x : wz_X} {u : wz_M} (h : wz_S x u) (i1 i2 : Int32) : (xs_irregular x i1 i2).1 = (ms_irregular u i1 i2).1 ∧ wz_S (xs_irregular x i1 i2).2 (ms_irregular u i1 i2).2 := by
  obtain ⟨n, tx, ⟨pv, nu, st, mo, jo, vo, re⟩, P, pr, hc, hd, ns, fs, fe, fl, fn, ft, f2, fv, fp, fc⟩ := x
  obtain ⟨th, mn, tb, mpv, wr, ks, km, kj, kv, kr, kx, kz, cn, mhc, md, ⟨ms, gs, ge, gn, gt, gp, gc⟩, kp, pz⟩ := u
  obtain ⟨⟨a1, a2, a3, a4⟩, ⟨b1, b2, b3, b4⟩, c0, ⟨d1, d2⟩, pn, nn, tn, e0⟩ := h
  have e1 : ns = ms := e0.1
  have e2 : ns ≤ 100 := e0.2.1
  subst a2; subst b1; subst d1; subst e1
  have hb := s_out (fc := fc) (gc := gc) e2 (fun k hk => (e0.2.2 k hk).2.2.2.2.2.2.2.2.1.1) i1 i2
  refine ⟨congrArg bo_I hb, ⟨a1, rfl, a3, a4⟩, ⟨rfl, b2, b3, b4⟩, c0, ⟨rfl, d2⟩, pn, nn, tn, ?_⟩
  show eq_L (wp_vn P) (wp_rn P) P.length (ns, fs, cond (li_out ns fc i1 && mo_day i2) (upd fe i1.toNatClampNeg i2) fe, fl, fn, ft, f2, fv, fp, fc) (ns, gs, cond (li_has ns i1 && (mo_day i2 && decide (gc i1.toNatClampNeg = (-1)))) (upd ge i1.toNatClampNeg i2) ge, gn, gt, gp, gc) pn nn tn
  rw [← hb]
  rcases hh : (li_out ns fc i1 && mo_day i2) with _ | _
  · exact e0
  · simp only [Bool.and_eq_true] at hh
    obtain ⟨d, hd1, hd2⟩ := mo_day_of hh.2
    refine ⟨rfl, e2, fun k hk => ?_⟩
    have := e0.2.2 k hk
    obtain ⟨f1, f2', f3⟩ := this
    refine ⟨f1, ?_, f3⟩
    show upd fe i1.toNatClampNeg i2 k = upd ge i1.toNatClampNeg i2 k ∧ ∃ d, d ≤ 1000000 ∧ upd ge i1.toNatClampNeg i2 k = nI d
    by_cases hj : k = i1.toNatClampNeg
    · rw [hj, upd_eq, upd_eq]; exact ⟨rfl, d, hd1, hd2.symm⟩
    · rw [upd_ne _ _ hj, upd_ne _ _ hj]; exact f2'
theorem s_came {x : wz_X} {u : wz_M} (h : wz_S x u) (i1 i2 : Int32) : (xs_came x i1 i2).1 = (ms_came u i1 i2).1 ∧ wz_S (xs_came x i1 i2).2 (ms_came u i1 i2).2 := by
  obtain ⟨n, tx, ⟨pv, nu, st, mo, jo, vo, re⟩, P, pr, hc, hd, ns, fs, fe, fl, fn, ft, f2, fv, fp, fc⟩ := x
  obtain ⟨th, mn, tb, mpv, wr, ks, km, kj, kv, kr, kx, kz, cn, mhc, md, ⟨ms, gs, ge, gn, gt, gp, gc⟩, kp, pz⟩ := u
  obtain ⟨⟨a1, a2, a3, a4⟩, ⟨b1, b2, b3, b4⟩, c0, ⟨d1, d2⟩, pn, nn, tn, e0⟩ := h
  have e1 : ns = ms := e0.1
  have e2 : ns ≤ 100 := e0.2.1
  subst a2; subst b1; subst d1; subst e1
  have hb := s_out (fc := fc) (gc := gc) e2 (fun k hk => (e0.2.2 k hk).2.2.2.2.2.2.2.2.1.1) i1 i2
  refine ⟨congrArg bo_I hb, ⟨a1, rfl, a3, a4⟩, ⟨rfl, b2, b3, b4⟩, c0, ⟨rfl, d2⟩, pn, nn, tn, ?_⟩
  show eq_L (wp_vn P) (wp_rn P) P.length (ns, fs, fe, fl, fn, ft, f2, fv, fp, cond (li_out ns fc i1 && mo_day i2) (upd fc i1.toNatClampNeg i2) fc) (ns, gs, ge, gn, gt, gp, cond (li_has ns i1 && (mo_day i2 && decide (gc i1.toNatClampNeg = (-1)))) (upd gc i1.toNatClampNeg i2) gc) pn nn tn
  rw [← hb]
  rcases hh : (li_out ns fc i1 && mo_day i2) with _ | _
  · exact e0
  · simp only [Bool.and_eq_true] at hh
    obtain ⟨d, hd1, hd2⟩ := mo_day_of hh.2
    refine ⟨rfl, e2, fun k hk => ?_⟩
    obtain ⟨f1, f2', f3, f4, f5, f6, f7, f8, f9, f10⟩ := e0.2.2 k hk
    refine ⟨f1, f2', f3, f4, f5, f6, f7, f8, ?_, f10⟩
    show upd fc i1.toNatClampNeg i2 k = upd gc i1.toNatClampNeg i2 k ∧ (upd gc i1.toNatClampNeg i2 k = (-1) ∨ ∃ d, d ≤ 1000000 ∧ upd gc i1.toNatClampNeg i2 k = nI d)
    by_cases hj : k = i1.toNatClampNeg
    · rw [hj, upd_eq, upd_eq]; exact ⟨rfl, Or.inr ⟨d, hd1, hd2.symm⟩⟩
    · rw [upd_ne _ _ hj, upd_ne _ _ hj]; exact f9
theorem s_holiday {x : wz_X} {u : wz_M} (h : wz_S x u) (i1 : Int32) : (xs_holiday x i1).1 = (ms_holiday u i1).1 ∧ wz_S (xs_holiday x i1).2 (ms_holiday u i1).2 := by
  obtain ⟨n, tx, ⟨pv, nu, st, mo, jo, vo, re⟩, P, pr, hc, hd, ns, fs, fe, fl, fn, ft, f2, fv, fp, fc⟩ := x
  obtain ⟨th, mn, tb, mpv, wr, ks, km, kj, kv, kr, kx, kz, cn, mhc, md, ⟨ms, gs, ge, gn, gt, gp, gc⟩, kp, pz⟩ := u
  obtain ⟨⟨a1, a2, a3, a4⟩, ⟨b1, b2, b3, b4⟩, c0, ⟨d1, d2⟩, pn, nn, tn, e0⟩ := h
  have e1 : ns = ms := e0.1
  have e2 : ns ≤ 100 := e0.2.1
  subst a2; subst b1; subst d1; subst e1
  have hb : (mo_day i1 && decide (hc < 60 ∧ ho_nx hd hc 0 i1.toNatClampNeg = i1.toNatClampNeg)) = (mo_day i1 && (!mo_hol md i1 hc 0 false && decide (hc < 60))) := by
    rcases hh : mo_day i1 with _ | _
    · rfl
    · obtain ⟨d, hd1, rfl⟩ := mo_day_of hh
      rw [nI_clamp (by omega), eq_hol d2 (by omega), Bool.not_not, Bool.true_and, Bool.true_and, Bool.and_comm, Bool.decide_and]
  refine ⟨congrArg (fun b => cond b (nI (hc + 1)) 0) hb, ⟨a1, rfl, a3, a4⟩, ⟨rfl, b2, b3, b4⟩, c0, ?_, pn, nn, tn, e0⟩
  show cond (mo_day i1 && decide (hc < 60 ∧ ho_nx hd hc 0 i1.toNatClampNeg = i1.toNatClampNeg)) (hc + 1) hc = cond (mo_day i1 && (!mo_hol md i1 hc 0 false && decide (hc < 60))) (hc + 1) hc ∧ eq_H (cond (mo_day i1 && decide (hc < 60 ∧ ho_nx hd hc 0 i1.toNatClampNeg = i1.toNatClampNeg)) (upd (ho_ins i1 hc hd).2 (ho_ins i1 hc hd).1 i1) hd) (cond (mo_day i1 && (!mo_hol md i1 hc 0 false && decide (hc < 60))) (upd md hc i1) md) (cond (mo_day i1 && decide (hc < 60 ∧ ho_nx hd hc 0 i1.toNatClampNeg = i1.toNatClampNeg)) (hc + 1) hc)
  rw [← hb]
  refine ⟨rfl, ?_⟩
  rcases hh : (mo_day i1 && decide (hc < 60 ∧ ho_nx hd hc 0 i1.toNatClampNeg = i1.toNatClampNeg)) with _ | _
  · exact d2
  · simp only [Bool.and_eq_true, decide_eq_true_eq] at hh
    obtain ⟨d, hd1, rfl⟩ := mo_day_of hh.1
    rw [nI_clamp (by omega)] at hh
    exact eq_ins d2 hd1 hh.2.1 hh.2.2
theorem s_has {P : List wz_Pr} {i : Int32} {r : wz_Pr} (hl : P.length ≤ 10) (h : xp_at P i = some r) : li_has P.length i = true := by
  obtain ⟨k, hk, -, rfl⟩ := xp_some hl h
  rw [li_has_nI (by omega) (by omega), decide_eq_true hk]
theorem s_print {x : wz_X} {u : wz_M} (h : wz_S x u) (i1 : Int32) : (xs_print x i1).1 = (ms_print u i1).1 ∧ wz_S (xs_print x i1).2 (ms_print u i1).2 := by
  obtain ⟨n, tx, ⟨pv, nu, st, mo, jo, vo, re⟩, P, pr, hc, hd, ns, fs, fe, fl, fn, ft, f2, fv, fp, fc⟩ := x
  obtain ⟨th, mn, tb, mpv, wr, ks, km, kj, kv, kr, kx, kz, cn, mhc, md, ⟨ms, gs, ge, gn, gt, gp, gc⟩, kp, pz⟩ := u
  obtain ⟨⟨a1, a2, a3, a4⟩, ⟨b1, b2, b3, b4⟩, c0, ⟨d1, d2⟩, pn, nn, tn, e0⟩ := h
  have e1 : ns = ms := e0.1
  have e2 : ns ≤ 100 := e0.2.1
  subst a2; subst b1; subst d1; subst e1
  rcases hp : xp_at P i1 with _ | r
  · have hh := xp_none b2 hp
    simp only [xs_print, ms_print, hp, hh, cond_false]
    exact ⟨trivial, ⟨a1, rfl, a3, a4⟩, ⟨rfl, b2, b3, b4⟩, c0, ⟨rfl, d2⟩, pn, nn, tn, e0⟩
  · have hh := s_has b2 hp
    obtain ⟨k, hk, hkr, rfl⟩ := xp_some b2 hp
    obtain ⟨g, p1, p2, p3, p4, p5, p6, p7⟩ := b4 k r hkr
    have hz : wt kz k = r.2.2.1 := wt_of p6 (Nat.lt_of_le_of_lt (okP_pn g) (by decide))
    simp only [xs_print, ms_print, hp, hh, cond_true, nI_clamp (show k < 2 ^ 31 by omega), hz]
    refine ⟨trivial, ⟨a1, rfl, a3, a4⟩, ⟨rfl, b2, b3, b4⟩, Or.inr ⟨r, rfl, ⟨k, hkr⟩, rfl, fun j hj => ?_⟩, ⟨rfl, d2⟩, pn, nn, tn, e0⟩
    show r.2.2.2.1 j = mo_cp kx (120 * k) r.2.2.1 kp j &&& 255
    unfold mo_cp
    rw [if_pos hj]
    exact p7 j hj
theorem s_at {x : wz_X} {u : wz_M} (h : wz_S x u) (i1 : Int32) : xs_at x i1 = (ms_at u i1).1 ∧ wz_S x (ms_at u i1).2 := by
  obtain ⟨n, tx, ⟨pv, nu, st, mo, jo, vo, re⟩, P, pr, hc, hd, ns, fs, fe, fl, fn, ft, f2, fv, fp, fc⟩ := x
  obtain ⟨th, mn, tb, mpv, wr, ks, km, kj, kv, kr, kx, kz, cn, mhc, md, ⟨ms, gs, ge, gn, gt, gp, gc⟩, kp, pz⟩ := u
  obtain ⟨⟨a1, a2, a3, a4⟩, ⟨b1, b2, b3, b4⟩, c0, ⟨d1, d2⟩, pn, nn, tn, e0⟩ := h
  have e1 : ns = ms := e0.1
  have e2 : ns ≤ 100 := e0.2.1
  subst a2; subst b1; subst d1; subst e1
  refine ⟨?_, ⟨a1, rfl, a3, a4⟩, ⟨rfl, b2, b3, b4⟩, c0, ⟨rfl, d2⟩, pn, nn, tn, e0⟩
  rcases c0 with ⟨c1, c2⟩ | ⟨r, c1, ⟨k, c2⟩, c3, c4⟩
  · subst c1; subst c2
    show -1 = cond (li_has 0 i1) (kp i1.toNatClampNeg &&& 255) (-1)
    rcases hh : li_has 0 i1 with _ | _
    · rfl
    · obtain ⟨k, hk, -⟩ := li_has_of (by omega) hh; omega
  · subst c1; subst c3
    show cond (li_has r.2.2.1 i1) (r.2.2.2.1 i1.toNatClampNeg) (-1) = cond (li_has r.2.2.1 i1) (kp i1.toNatClampNeg &&& 255) (-1)
    have hpn := okP_pn (b4 k r c2).1
    rcases hh : li_has r.2.2.1 i1 with _ | _
    · rfl
    · obtain ⟨k, hk, rfl⟩ := li_has_of (by omega) hh
      rw [nI_clamp (by omega)]
      exact c4 k hk
theorem wp_at {P : List wz_Pr} {k : Nat} {r : wz_Pr} (h : P[k]? = some r) : wp_vn P k = xr_vo r ∧ wp_rn P k = xr_re r := by
  unfold wp_vn wp_rn
  rw [h]
  exact ⟨rfl, rfl⟩
theorem s_foretell {x : wz_X} {u : wz_M} (h : wz_S x u) (i1 i2 i3 : Int32) : (xs_foretell x i1 i2 i3).1 = (ms_foretell u i1 i2 i3).1 ∧ wz_S (xs_foretell x i1 i2 i3).2 (ms_foretell u i1 i2 i3).2 := by
  obtain ⟨n, tx, ⟨pv, nu, st, mo, jo, vo, re⟩, P, pr, hc, hd, ns, fs, fe, fl, fn, ft, f2, fv, fp, fc⟩ := x
  obtain ⟨th, mn, tb, mpv, wr, ks, km, kj, kv, kr, kx, kz, cn, mhc, md, ⟨ms, gs, ge, gn, gt, gp, gc⟩, kp, pz⟩ := u
  obtain ⟨⟨a1, a2, a3, a4⟩, ⟨b1, b2, b3, b4⟩, c0, ⟨d1, d2⟩, pn, nn, tn, e0⟩ := h
  have e1 : ns = ms := e0.1
  have e2 : ns ≤ 100 := e0.2.1
  subst a2; subst b1; subst d1; subst e1
  rcases hp : xp_at P i1 with _ | r
  · have hh := xp_none b2 hp
    simp only [xs_foretell, ms_foretell, hp, hh, Bool.false_and, cond_false]
    exact ⟨trivial, ⟨a1, rfl, a3, a4⟩, ⟨rfl, b2, b3, b4⟩, c0, ⟨rfl, d2⟩, pn, nn, tn, e0⟩
  · have hh := s_has b2 hp
    rcases hb : (mo_rng i3 && mo_day i2) with _ | _
    · simp only [xs_foretell, ms_foretell, hp, hh, hb, Bool.true_and, cond_false]
      exact ⟨trivial, ⟨a1, rfl, a3, a4⟩, ⟨rfl, b2, b3, b4⟩, c0, ⟨rfl, d2⟩, pn, nn, tn, e0⟩
    · simp only [Bool.and_eq_true] at hb
      have hb' : (mo_rng i3 && mo_day i2) = true := by rw [hb.1, hb.2]; rfl
      obtain ⟨k, hk, hkr, rfl⟩ := xp_some b2 hp
      obtain ⟨dy, hdy, rfl⟩ := mo_day_of hb.2
      have hr := hb.1
      simp only [mo_rng, Bool.and_eq_true, decide_eq_true_eq] at hr
      obtain ⟨zz, ⟨hn1, hn2, -⟩, rfl⟩ := mo_rng_of (Int32.not_lt.mpr hr.1) (Int32.not_lt.mpr hr.2)
      obtain ⟨⟨g1, g2, g3, g4, g5, g6⟩, p1, p2, p3, p4, p5, p6, p7⟩ := b4 k r hkr
      have w1 : wt ks k = xr_sd r := wt_of p1 (Nat.lt_of_le_of_lt g2 (by decide))
      have w2 : wt kj k = xr_jo r := wt_of p3 (Nat.lt_of_le_of_lt g3 (by decide))
      obtain ⟨v1, v2⟩ := wp_at hkr
      simp only [xs_foretell, ms_foretell, hp, hh, hb', Bool.true_and, cond_true, nI_clamp (show k < 2 ^ 31 by omega), nI_clamp (show dy < 2 ^ 31 by omega), nI_clamp (show zz < 2 ^ 31 by omega), w1, w2, p2]
      obtain ⟨pn', nn', tn', e9⟩ := eq_go (vn := wp_vn P) (rn := wp_rn P) (cn := P.length) d2 (pq := k) (sd := xr_sd r) (mo := xr_mo r) (jo := xr_jo r) hk zz 0 dy 0 (0, fs, fe, fl, fn, ft, f2, fv, fp, fc) (0, gs, ge, gn, gt, gp, gc) pn nn tn (eq_cut e0 (Nat.zero_le _)) (by show 0 + zz ≤ 100; omega) (by omega)
      rw [v1, v2] at e9
      refine ⟨congrArg nI e9.1, ⟨a1, rfl, a3, a4⟩, ⟨rfl, b2, b3, b4⟩, c0, ⟨rfl, d2⟩, pn', nn', tn', e9⟩
theorem s_bef {f g : Nat → Int32} {x : Int32} : ∀ (n k : Nat), (∀ j, k ≤ j → j < k + n → f j = g j) → li_bef f x n k = li_bef g x n k := by
  intro n
  induction n with
  | zero => intro k _; rfl
  | succ n ih =>
    intro k h
    rw [li_bef, li_bef, h k (Nat.le_refl _) (by omega), ih (k + 1) (fun j a b => h j (by omega) (by omega))]
theorem s_come {f g : Nat → Int32} : ∀ (n k : Nat), (∀ j, k ≤ j → j < k + n → f j = g j) → li_come f n k = li_come g n k := by
  intro n
  induction n with
  | zero => intro k _; rfl
  | succ n ih =>
    intro k h
    rw [li_come, li_come, h k (Nat.le_refl _) (by omega), ih (k + 1) (fun j a b => h j (by omega) (by omega))]
theorem s_changed {x : wz_X} {u : wz_M} (h : wz_S x u) (i1 i2 : Int32) : (xs_changed x i1 i2).1 = (ms_changed u i1 i2).1 ∧ wz_S (xs_changed x i1 i2).2 (ms_changed u i1 i2).2 := by
  obtain ⟨n, tx, ⟨pv, nu, st, mo, jo, vo, re⟩, P, pr, hc, hd, ns, fs, fe, fl, fn, ft, f2, fv, fp, fc⟩ := x
  obtain ⟨th, mn, tb, mpv, wr, ks, km, kj, kv, kr, kx, kz, cn, mhc, md, ⟨ms, gs, ge, gn, gt, gp, gc⟩, kp, pz⟩ := u
  obtain ⟨⟨a1, a2, a3, a4⟩, ⟨b1, b2, b3, b4⟩, c0, ⟨d1, d2⟩, pn, nn, tn, e0⟩ := h
  have e1 : ns = ms := e0.1
  have e2 : ns ≤ 100 := e0.2.1
  subst a2; subst b1; subst d1; subst e1
  have hlf : li_bef gs i2 ns 0 = li_bef fs i2 ns 0 := s_bef ns 0 (fun j _ hj => (e0.2.2 j (by omega)).1.1.symm)
  have hle := li_bef_le (fs := fs) (x := i2) ns 0
  have hlc : li_come gc (ns - li_bef fs i2 ns 0) (li_bef fs i2 ns 0) = li_come fc (ns - li_bef fs i2 ns 0) (li_bef fs i2 ns 0) := s_come _ _ (fun j _ hj => (e0.2.2 j (by omega)).2.2.2.2.2.2.2.2.1.1.symm)
  rcases hp : xp_at P i1 with _ | r
  · have hh := xp_none b2 hp
    simp only [xs_changed, ms_changed, hp, hh, Bool.false_and, cond_false]
    exact ⟨trivial, ⟨a1, rfl, a3, a4⟩, ⟨rfl, b2, b3, b4⟩, c0, ⟨rfl, d2⟩, pn, nn, tn, e0⟩
  · have hh := s_has b2 hp
    rcases hb : (mo_day i2 && !(li_come fc (ns - li_bef fs i2 ns 0) (li_bef fs i2 ns 0))) with _ | _
    · simp only [xs_changed, ms_changed, xl_co, xl_lf, hp, hh, hlf, hlc, hb, Bool.true_and, cond_false]
      exact ⟨trivial, ⟨a1, rfl, a3, a4⟩, ⟨rfl, b2, b3, b4⟩, c0, ⟨rfl, d2⟩, pn, nn, tn, e0⟩
    · have hb' := hb
      simp only [Bool.and_eq_true] at hb'
      obtain ⟨k, hk, hkr, rfl⟩ := xp_some b2 hp
      obtain ⟨dy, hdy, rfl⟩ := mo_day_of hb'.1
      obtain ⟨⟨g1, g2, g3, g4, g5, g6⟩, p1, p2, p3, p4, p5, p6, p7⟩ := b4 k r hkr
      have w1 : wt ks k = xr_sd r := wt_of p1 (Nat.lt_of_le_of_lt g2 (by decide))
      have w2 : wt kj k = xr_jo r := wt_of p3 (Nat.lt_of_le_of_lt g3 (by decide))
      obtain ⟨v1, v2⟩ := wp_at hkr
      obtain ⟨la, q1, q2, q3⟩ := eq_n0 e0 (l := li_bef fs (nI dy) ns 0) (by show _ ≤ ns; omega)
      have q4 : mo_n0 (wt gn) (wb gt) (li_bef fs (nI dy) ns 0) = la + 1 := by
        rw [← q1]
        cases hl0 : li_bef fs (nI dy) ns 0 with
        | zero => rfl
        | succ l =>
          obtain ⟨-, -, -, -, -, -, -, -, -, h10, h11, -, -, h14, h15⟩ := e0.2.2 l (by show l < ns; omega)
          have h10 : gn l = nI (nn l) := h10
          have h11 : gt l = bo_I (tn l) := h11
          show wt gn l + cond (wb gt l) 2 1 = nn l + cond (tn l) 2 1
          have hl1 : l < ns := by omega
          rw [wt_of h10 (by omega), wb_of h11]
      have q5 : xl_la (ns, fs, fe, fl, fn, ft, f2, fv, fp, fc) (li_bef fs (nI dy) ns 0) = la := by
        unfold xl_la
        rcases q3 with ⟨z1, z2⟩ | ⟨z1, z2⟩
        · rw [if_pos z1, z2]
        · rw [if_neg (by omega)]
          show (fl (li_bef fs (nI dy) ns 0 - 1)).toNatClampNeg = la
          have z2 : fl (li_bef fs (nI dy) ns 0 - 1) = nI la := z2
          rw [z2, nI_clamp (by omega)]
      simp only [xs_changed, ms_changed, xl_co, xl_lf, xg_chg, hp, hh, hlf, hlc, hb, Bool.true_and, cond_true, nI_clamp (show k < 2 ^ 31 by omega), nI_clamp (show dy < 2 ^ 31 by omega), w1, w2, p2, q4, q5]
      obtain ⟨pn', nn', tn', e9⟩ := eq_go (vn := wp_vn P) (rn := wp_rn P) (cn := P.length) d2 (pq := k) (sd := xr_sd r) (mo := xr_mo r) (jo := xr_jo r) hk (ns - li_bef fs (nI dy) ns 0) 0 dy la (li_bef fs (nI dy) ns 0, fs, fe, fl, fn, ft, f2, fv, fp, fc) (li_bef fs (nI dy) ns 0, gs, ge, gn, gt, gp, gc) pn nn tn (eq_cut e0 (l := li_bef fs (nI dy) ns 0) (by show _ ≤ ns; omega)) (by show li_bef fs (nI dy) ns 0 + (ns - li_bef fs (nI dy) ns 0) ≤ 100; omega) q2
      rw [v1, v2] at e9
      exact ⟨trivial, ⟨a1, rfl, a3, a4⟩, ⟨rfl, b2, b3, b4⟩, c0, ⟨rfl, d2⟩, pn', nn', tn', e9⟩
