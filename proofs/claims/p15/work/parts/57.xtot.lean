/-! the class's calls with several ways, each as one function of state and arguments -/
def xp_at (P : List wz_Pr) (i : Int32) : Option wz_Pr := cond (li_has P.length i) P[i.toNatClampNeg]? none
theorem xp_none {P : List wz_Pr} {i : Int32} (hl : P.length ≤ 10) (h : xp_at P i = none) : li_has P.length i = false := by
  cases hh : li_has P.length i with
  | false => rfl
  | true =>
    obtain ⟨k, hk, rfl⟩ := li_has_of (by omega) hh
    unfold xp_at at h
    rw [hh, nI_clamp (by omega), cond_true, List.getElem?_eq_getElem hk] at h
    cases h
theorem xp_some {P : List wz_Pr} {i : Int32} {r : wz_Pr} (hl : P.length ≤ 10) (h : xp_at P i = some r) : ∃ k, k < P.length ∧ P[k]? = some r ∧ nI k = i := by
  cases hh : li_has P.length i with
  | false =>
    unfold xp_at at h
    rw [hh] at h
    cases h
  | true =>
    obtain ⟨k, hk, rfl⟩ := li_has_of (by omega) hh
    unfold xp_at at h
    rw [hh, nI_clamp (by omega), cond_true] at h
    exact ⟨k, hk, h, rfl⟩
abbrev xr_sd (r : wz_Pr) : Nat := r.2.2.2.2.1
abbrev xr_mo (r : wz_Pr) : Int32 := r.2.2.2.2.2.1
abbrev xr_jo (r : wz_Pr) : Nat := r.2.2.2.2.2.2.1
abbrev xr_vo (r : wz_Pr) : Nat := r.2.2.2.2.2.2.2.1
abbrev xr_re (r : wz_Pr) : Bool := r.2.2.2.2.2.2.2.2
def xg_fore (r : wz_Pr) (k : Nat) (hc : Nat) (hd : Nat → Int32) (L : li_T) (dy nn : Nat) : li_T := li_go k (xr_sd r) (xr_mo r) (xr_jo r) (xr_vo r) (xr_re r) hd hc nn 1 dy 0 (0, L.2)
def xs_foretell (x : wz_X) (i1 i2 i3 : Int32) : Int32 × wz_X := match x with
  | (n, tx, R, P, pr, hc, hd, L) => match xp_at P i1 with
    | none => (-1, (n, tx, R, P, pr, hc, hd, L))
    | some r => cond (mo_rng i3 && mo_day i2) (nI (xg_fore r i1.toNatClampNeg hc hd L i2.toNatClampNeg i3.toNatClampNeg).1, (n, tx, R, P, pr, hc, hd, xg_fore r i1.toNatClampNeg hc hd L i2.toNatClampNeg i3.toNatClampNeg)) (-1, (n, tx, R, P, pr, hc, hd, L))
def xl_lf (L : li_T) (i2 : Int32) : Nat := li_bef L.2.1 i2 L.1 0
def xl_la (L : li_T) (l : Nat) : Nat := if l = 0 then 0 else (L.2.2.2.1 (l - 1)).toNatClampNeg
def xl_co (L : li_T) (l : Nat) : Bool := li_come L.2.2.2.2.2.2.2.2.2 (L.1 - l) l
def xg_chg (r : wz_Pr) (k : Nat) (hc : Nat) (hd : Nat → Int32) (L : li_T) (dy l : Nat) : li_T := li_go k (xr_sd r) (xr_mo r) (xr_jo r) (xr_vo r) (xr_re r) hd hc (L.1 - l) 1 dy (xl_la L l) (l, L.2)
def xs_changed (x : wz_X) (i1 i2 : Int32) : Int32 × wz_X := match x with
  | (n, tx, R, P, pr, hc, hd, L) => match xp_at P i1 with
    | none => (-1, (n, tx, R, P, pr, hc, hd, L))
    | some r => cond (mo_day i2 && !(xl_co L (xl_lf L i2))) (nI (L.1 - xl_lf L i2), (n, tx, R, P, pr, hc, hd, xg_chg r i1.toNatClampNeg hc hd L i2.toNatClampNeg (xl_lf L i2))) (-1, (n, tx, R, P, pr, hc, hd, L))
def xs_print (x : wz_X) (i1 : Int32) : Int32 × wz_X := match x with
  | (n, tx, R, P, pr, hc, hd, L) => match xp_at P i1 with
    | none => (0, (n, tx, R, P, pr, hc, hd, L))
    | some r => (nI r.2.2.1, (n, tx, R, P, some r, hc, hd, L))
def xs_at (x : wz_X) (i1 : Int32) : Int32 := match x with
  | (n, tx, R, P, pr, hc, hd, L) => match pr with
    | none => -1
    | some r => cond (li_has r.2.2.1 i1) (r.2.2.2.1 i1.toNatClampNeg) (-1)
def xn_pat (a b n : Nat) (tx : Nat → Int32) (U : Bool × Nat × Int32 × Int32 × Int32 × Int32 × Int32 × Bool) : wz_Pr := (a, b, n, fun j => if j < n then tx j else 0, U.2.2.2.1.toNatClampNeg, U.2.2.2.2.1, U.2.2.2.2.2.1.toNatClampNeg, U.2.2.2.2.2.2.1.toNatClampNeg, U.2.2.2.2.2.2.2)
def xs_read (x : wz_X) (a b : Nat) : Int32 × wz_X := match x with
  | (n, tx, (pv, nu, st, mo, jo, vo, re), P, pr, hc, hd, L) =>
    cond (rd_und tx n nu st).1 (cond (decide (P.length < 10))
      (nI P.length, (0, tx, (nI (rd_und tx n nu st).2.1, (rd_und tx n nu st).2.2.1, (rd_und tx n nu st).2.2.2.1, (rd_und tx n nu st).2.2.2.2.1, (rd_und tx n nu st).2.2.2.2.2.1, (rd_und tx n nu st).2.2.2.2.2.2.1, (rd_und tx n nu st).2.2.2.2.2.2.2), P ++ [xn_pat a b n tx (rd_und tx n nu st)], pr, hc, hd, L))
      (-200, (0, tx, (nI (rd_und tx n nu st).2.1, (rd_und tx n nu st).2.2.1, (rd_und tx n nu st).2.2.2.1, (rd_und tx n nu st).2.2.2.2.1, (rd_und tx n nu st).2.2.2.2.2.1, (rd_und tx n nu st).2.2.2.2.2.2.1, (rd_und tx n nu st).2.2.2.2.2.2.2), P, pr, hc, hd, L)))
      ((-1) - nI (rd_und tx n nu st).2.1, (0, tx, (nI (rd_und tx n nu st).2.1, (rd_und tx n nu st).2.2.1, (rd_und tx n nu st).2.2.2.1, (rd_und tx n nu st).2.2.2.2.1, (rd_und tx n nu st).2.2.2.2.2.1, (rd_und tx n nu st).2.2.2.2.2.2.1, (rd_und tx n nu st).2.2.2.2.2.2.2), P, pr, hc, hd, L))
/-! what is accepted has numbers in their bounds -/
theorem how_in {t : Nat → Int32} {n p : Nat} {nu st : Int32} : (rd_how t n p nu st).1 = true → ∃ sd, 1 ≤ sd ∧ sd ≤ 2970 ∧ (rd_how t n p nu st).2.2.2 = nI sd := by
  unfold rd_how
  cases hn : rd_num t n 1 99 (p + sv_len 0 + 1)
  · generalize rd_word t n p (sv_w 0) (sv_len 0) = b1
    generalize rd_sp t n (p + sv_len 0) = b2
    cases b1 <;> cases b2 <;> (intro h; cases h)
  · obtain ⟨v1, v2⟩ := rd_num_le hn
    generalize rd_word t n p (sv_w 0) (sv_len 0) = b1
    generalize rd_sp t n (p + sv_len 0) = b2
    generalize rd_sp t n (rd_end t n (p + sv_len 0 + 1)) = b3
    generalize rd_word t n (rd_end t n (p + sv_len 0 + 1) + 1) (sv_w 1) (sv_len 1) = b4
    generalize rd_word t n (rd_end t n (p + sv_len 0 + 1) + 1) (sv_w 2) (sv_len 2) = b5
    generalize rd_word t n (rd_end t n (p + sv_len 0 + 1) + 1) (sv_w 3) (sv_len 3) = b6
    generalize rd_val t n (p + sv_len 0 + 1) = v at v1 v2 ⊢
    cases b1 <;> cases b2 <;> cases b3 <;> cases b4 <;> cases b5 <;> cases b6 <;> first | (intro h; cases h; done) | exact fun _ => ⟨v, by omega, by omega, rfl⟩ | exact fun _ => ⟨v * 7, by omega, by omega, rfl⟩ | exact fun _ => ⟨v * 30, by omega, by omega, rfl⟩
theorem c2_in {t : Nat → Int32} {n p : Nat} {nu : Int32} : (rd_c2 t n p nu 0).1 = true → ∃ jo, jo ≤ 99 ∧ (rd_c2 t n p nu 0).2.2.2 = nI jo := by
  unfold rd_c2
  cases hn : rd_num t n 2 99 (p + 1 + sv_len 5 + 1)
  · generalize rd_next t n p (sv_w 5) (sv_len 5) = b1
    generalize rd_sp t n (p + 1 + sv_len 5) = b2
    cases b1 <;> cases b2 <;> first | (intro h; cases h; done) | exact fun _ => ⟨0, by omega, rfl⟩
  · obtain ⟨v1, v2⟩ := rd_num_le hn
    generalize rd_next t n p (sv_w 5) (sv_len 5) = b1
    generalize rd_sp t n (p + 1 + sv_len 5) = b2
    generalize rd_val t n (p + 1 + sv_len 5 + 1) = v at v1 v2 ⊢
    cases b1 <;> cases b2 <;> first | (intro h; cases h; done) | exact fun _ => ⟨0, by omega, rfl⟩ | exact fun _ => ⟨v, by omega, rfl⟩
theorem c3_in {t : Nat → Int32} {n p : Nat} {nu : Int32} : (rd_c3 t n p nu 0 false).1 = true → ∃ vo, vo ≤ 99 ∧ (rd_c3 t n p nu 0 false).2.2.2.1 = nI vo ∧ ((rd_c3 t n p nu 0 false).2.2.2.2 = true → 0 < vo) := by
  unfold rd_c3
  cases hn : rd_num t n 1 99 (p + 1 + sv_len 6 + 1)
  · generalize rd_next t n p (sv_w 6) (sv_len 6) = b1
    generalize rd_sp t n (p + 1 + sv_len 6) = b2
    cases b1 <;> cases b2 <;> first | (intro h; cases h; done) | exact fun _ => ⟨0, by omega, rfl, fun z => by cases z⟩
  · obtain ⟨v1, v2⟩ := rd_num_le hn
    generalize rd_next t n p (sv_w 6) (sv_len 6) = b1
    generalize rd_sp t n (p + 1 + sv_len 6) = b2
    generalize rd_next t n (rd_end t n (p + 1 + sv_len 6 + 1)) (sv_w 7) (sv_len 7) = b3
    generalize rd_val t n (p + 1 + sv_len 6 + 1) = v at v1 v2 ⊢
    cases b1 <;> cases b2 <;> cases b3 <;> first | (intro h; cases h; done) | exact fun _ => ⟨0, by omega, rfl, fun z => by cases z⟩ | exact fun _ => ⟨v, by omega, rfl, fun _ => by omega⟩
theorem und_in {t : Nat → Int32} {n : Nat} {nu st : Int32} : (rd_und t n nu st).1 = true → ∃ sd jo vo, (rd_und t n nu st).2.2.2.1 = nI sd ∧ (1 ≤ sd ∧ sd ≤ 2970) ∧ (rd_und t n nu st).2.2.2.2.2.1 = nI jo ∧ jo ≤ 99 ∧ (rd_und t n nu st).2.2.2.2.2.2.1 = nI vo ∧ vo ≤ 99 ∧ ((rd_und t n nu st).2.2.2.2.2.2.2 = true → 0 < vo) := by
  have h1 := how_in (t := t) (n := n) (p := 0) (nu := nu) (st := st)
  unfold rd_und
  generalize rd_how t n 0 nu st = h at h1 ⊢
  obtain ⟨b, p, u, s⟩ := h
  cases b
  · intro z; cases z
  · obtain ⟨sd, s1, s2, s3⟩ := h1 rfl
    simp only [cond_true]
    unfold rd_cl
    generalize rd_c1 t n p u 0 = c1
    obtain ⟨b1, p1, u1, m1⟩ := c1
    cases b1
    · intro z; cases z
    · simp only [cond_true]
      have h2 := c2_in (t := t) (n := n) (p := p1) (nu := u1)
      generalize rd_c2 t n p1 u1 0 = c2 at h2 ⊢
      obtain ⟨b2, p2, u2, m2⟩ := c2
      cases b2
      · intro z; cases z
      · obtain ⟨jo, j1, j2⟩ := h2 rfl
        simp only [cond_true]
        have h3 := c3_in (t := t) (n := n) (p := p2) (nu := u2)
        generalize rd_c3 t n p2 u2 0 false = c3 at h3 ⊢
        obtain ⟨b3, p3, u3, m3, r3⟩ := c3
        cases b3
        · intro z; cases z
        · obtain ⟨vo, w1, w2, w3⟩ := h3 rfl
          simp only [cond_true]
          cases decide (p3 = n)
          · intro z; cases z
          · intro _; exact ⟨sd, jo, vo, s3, ⟨s1, s2⟩, j2, j1, w2, w1, w3⟩
section WZT
variable {p : Program} {l : Launch} {e : Env} {s : State} {m : MethodId} {args : Array Value} {below : List Frame} {meth : Method} {c : Code} {H : Heap} {locs : List Loc} {cells slots : Nat} {Q : State → Prop}
variable {pc ix : Nat} {ls : Array Slot} {rest : List Value} {dC : Nat → ClassId} {dI : Nat → Nat → Nat} {A0 : Nat → Prop} {A : Nat → Nat} {K : Nat → ClassId} {ad av : Nat → Nat} {x : wz_X} {u : wz_M} {o : Nat → Int64}
theorem X_foretell (C : CallFix p m c code 7 s args ga_tbl "PatternTextLaw") (hN : ga_N s) (hK : va_K (dC, dI) ga_cl (wz_T K) s) (hA : ∀ q, s.heap.size ≤ q → A0 q) (hok : wz_ok x) (i1 i2 i3 : Int32) (hW : wz_W dC dI A0 A K s x u o H locs) (lk : Cond.methodLink "PatternTextLaw" ix y_Pa_foretell ∈ ga_tbl) (hsz : ls.size = 7) (hrst : (rest.map fun v => v.category).sum ≤ 8) (hdg : decode code pc = .ok (.invokevirtual ix, 3)) (hf : cells ≤ room_1.cells ∧ slots ≤ room_1.slots)
    (kk : ∀ (H1 : Heap) (locs1 : List Loc), wz_W dC dI A0 A K s (xs_foretell x i1 i2 i3).2 u o H1 locs1 → W p l e room_1 s m args below meth c H1 locs1 cells slots Q (F0 m (pc + 3) ls (.int (xs_foretell x i1 i2 i3).1 :: rest))) : W p l e room_1 s m args below meth c H locs cells slots Q (F0 m pc ls (.int i3 :: .int i2 :: .int i1 :: .ref (A 0) :: rest)) := by
  obtain ⟨n, tx, ⟨pv, nu, st, mo, jo, vo, re⟩, P, pr, hc, hd, ns, fs, fe, fl, fn, ft, f2, fv, fp, fc⟩ := x
  obtain ⟨th, mn, tb, mpv, wr, ks, km, kj, kv, kr, kx, kz, cn, mhc, md, ⟨ms, gs, ge, gn, gt, gp, gc⟩, kp, pz⟩ := u
  have h2 : P.length ≤ 10 := hok.2.1
  rcases hp : xp_at P i1 with _ | r
  · simp only [xs_foretell, hp] at kk
    exact x_foretell_n C hN hK hA i1 i2 i3 hok (xp_none h2 hp) hW lk hsz hrst hdg hf kk
  · obtain ⟨k, hk, hkr, rfl⟩ := xp_some h2 hp
    obtain ⟨pa, ps, pn, px, sd, pmo, pjo, pvo, pre⟩ := r
    rcases hb : (mo_rng i3 && mo_day i2) with _ | _
    · simp only [xs_foretell, hp, hb, cond_false] at kk
      exact x_foretell_b C hN hK hA k hkr i2 i3 hok hb hW lk hsz hrst hdg hf kk
    · simp only [xs_foretell, hp, hb, cond_true] at kk
      simp only [Bool.and_eq_true] at hb
      obtain ⟨dy, hdy, rfl⟩ := mo_day_of hb.2
      have hr := hb.1
      simp only [mo_rng, Bool.and_eq_true, decide_eq_true_eq] at hr
      obtain ⟨nn, ⟨hn1, hn2, -⟩, rfl⟩ := mo_rng_of (Int32.not_lt.mpr hr.1) (Int32.not_lt.mpr hr.2)
      rw [nI_clamp (show k < 2 ^ 31 by omega), nI_clamp (show dy < 2 ^ 31 by omega), nI_clamp (show nn < 2 ^ 31 by omega)] at kk
      exact x_foretell_s C hN hK hA k hkr dy nn hok hdy hn1 hn2 hW lk hsz hrst hdg hf kk
theorem X_changed (C : CallFix p m c code 7 s args ga_tbl "PatternTextLaw") (hN : ga_N s) (hK : va_K (dC, dI) ga_cl (wz_T K) s) (hA : ∀ q, s.heap.size ≤ q → A0 q) (hok : wz_ok x) (i1 i2 : Int32) (hW : wz_W dC dI A0 A K s x u o H locs) (lk : Cond.methodLink "PatternTextLaw" ix y_Pa_changed ∈ ga_tbl) (hsz : ls.size = 7) (hrst : (rest.map fun v => v.category).sum ≤ 8) (hdg : decode code pc = .ok (.invokevirtual ix, 3)) (hf : cells ≤ room_1.cells ∧ slots ≤ room_1.slots)
    (kk : ∀ (H1 : Heap) (locs1 : List Loc), wz_W dC dI A0 A K s (xs_changed x i1 i2).2 u o H1 locs1 → W p l e room_1 s m args below meth c H1 locs1 cells slots Q (F0 m (pc + 3) ls (.int (xs_changed x i1 i2).1 :: rest))) : W p l e room_1 s m args below meth c H locs cells slots Q (F0 m pc ls (.int i2 :: .int i1 :: .ref (A 0) :: rest)) := by
  obtain ⟨n, tx, ⟨pv, nu, st, mo, jo, vo, re⟩, P, pr, hc, hd, ns, fs, fe, fl, fn, ft, f2, fv, fp, fc⟩ := x
  obtain ⟨th, mn, tb, mpv, wr, ks, km, kj, kv, kr, kx, kz, cn, mhc, md, ⟨ms, gs, ge, gn, gt, gp, gc⟩, kp, pz⟩ := u
  have h2 : P.length ≤ 10 := hok.2.1
  rcases hp : xp_at P i1 with _ | r
  · simp only [xs_changed, hp] at kk
    exact x_changed_n C hN hK hA i1 i2 hok (xp_none h2 hp) hW lk hsz hrst hdg hf kk
  · obtain ⟨k, hk, hkr, rfl⟩ := xp_some h2 hp
    obtain ⟨pa, ps, pn, px, sd, pmo, pjo, pvo, pre⟩ := r
    rcases hb : mo_day i2 with _ | _
    · simp only [xs_changed, hp, hb, Bool.false_and, cond_false] at kk
      exact x_changed_b C hN hK hA k hkr i2 hok hb hW lk hsz hrst hdg hf kk
    · obtain ⟨dy, hdy, rfl⟩ := mo_day_of hb
      rcases hco : xl_co (ns, fs, fe, fl, fn, ft, f2, fv, fp, fc) (xl_lf (ns, fs, fe, fl, fn, ft, f2, fv, fp, fc) (nI dy)) with _ | _
      · simp only [xs_changed, hp, hb, hco, Bool.not_false, Bool.and_true, cond_true] at kk
        rw [nI_clamp (show k < 2 ^ 31 by omega), nI_clamp (show dy < 2 ^ 31 by omega)] at kk
        have hlb := li_bef_le (fs := fs) (x := nI dy) ns 0
        have h6 : ns ≤ 100 := hok.2.2.2.2.2.1
        refine x_changed_s C hN hK hA k hkr dy (xl_la (ns, fs, fe, fl, fn, ft, f2, fv, fp, fc) (li_bef fs (nI dy) ns 0)) hok hdy hco ?_ ?_ hW lk hsz hrst hdg hf kk
        · by_cases h0 : li_bef fs (nI dy) ns 0 = 0
          · exact Or.inl ⟨h0, by unfold xl_la; rw [if_pos h0]⟩
          · obtain ⟨la, hl1, hl2⟩ := hok.2.2.2.2.2.2 (li_bef fs (nI dy) ns 0 - 1) (by omega)
            refine Or.inr ⟨by omega, ?_⟩
            unfold xl_la
            rw [if_neg h0]
            show fl (li_bef fs (nI dy) ns 0 - 1) = nI (fl (li_bef fs (nI dy) ns 0 - 1)).toNatClampNeg
            rw [hl2, nI_clamp (by omega)]
        · by_cases h0 : li_bef fs (nI dy) ns 0 = 0
          · unfold xl_la; rw [if_pos h0]; omega
          · obtain ⟨la, hl1, hl2⟩ := hok.2.2.2.2.2.2 (li_bef fs (nI dy) ns 0 - 1) (by omega)
            unfold xl_la
            rw [if_neg h0]
            show (fl (li_bef fs (nI dy) ns 0 - 1)).toNatClampNeg ≤ 1000
            rw [hl2, nI_clamp (by omega)]
            exact hl1
      · simp only [xs_changed, hp, hb, hco, Bool.not_true, Bool.and_false, cond_false] at kk
        exact x_changed_c C hN hK hA k hkr dy hok hdy hco hW lk hsz hrst hdg hf kk
theorem X_print (C : CallFix p m c code 7 s args ga_tbl "PatternTextLaw") (hN : ga_N s) (hK : va_K (dC, dI) ga_cl (wz_T K) s) (hA : ∀ q, s.heap.size ≤ q → A0 q) (hok : wz_ok x) (i1 : Int32) (hW : wz_W dC dI A0 A K s x u o H locs) (lk : Cond.methodLink "PatternTextLaw" ix y_Pa_print ∈ ga_tbl) (hsz : ls.size = 7) (hrst : (rest.map fun v => v.category).sum ≤ 8) (hdg : decode code pc = .ok (.invokevirtual ix, 3)) (hf : cells ≤ room_1.cells ∧ slots ≤ room_1.slots)
    (kk : ∀ (H1 : Heap) (locs1 : List Loc), wz_W dC dI A0 A K s (xs_print x i1).2 u o H1 locs1 → W p l e room_1 s m args below meth c H1 locs1 cells slots Q (F0 m (pc + 3) ls (.int (xs_print x i1).1 :: rest))) : W p l e room_1 s m args below meth c H locs cells slots Q (F0 m pc ls (.int i1 :: .ref (A 0) :: rest)) := by
  obtain ⟨n, tx, ⟨pv, nu, st, mo, jo, vo, re⟩, P, pr, hc, hd, ns, fs, fe, fl, fn, ft, f2, fv, fp, fc⟩ := x
  obtain ⟨th, mn, tb, mpv, wr, ks, km, kj, kv, kr, kx, kz, cn, mhc, md, ⟨ms, gs, ge, gn, gt, gp, gc⟩, kp, pz⟩ := u
  have h2 : P.length ≤ 10 := hok.2.1
  rcases hp : xp_at P i1 with _ | r
  · simp only [xs_print, hp] at kk
    exact x_print_n C hN hK hA i1 hok (xp_none h2 hp) hW lk hsz hrst hdg hf kk
  · obtain ⟨k, hk, hkr, rfl⟩ := xp_some h2 hp
    obtain ⟨pa, ps, pn, px, sd, pmo, pjo, pvo, pre⟩ := r
    simp only [xs_print, hp] at kk
    exact x_print_s C hN hK hA k hkr hok hW lk hsz hrst hdg hf kk
theorem X_at (C : CallFix p m c code 7 s args ga_tbl "PatternTextLaw") (hN : ga_N s) (hK : va_K (dC, dI) ga_cl (wz_T K) s) (hA : ∀ q, s.heap.size ≤ q → A0 q) (hok : wz_ok x) (i1 : Int32) (hW : wz_W dC dI A0 A K s x u o H locs) (lk : Cond.methodLink "PatternTextLaw" ix y_Pa_at ∈ ga_tbl) (hsz : ls.size = 7) (hrst : (rest.map fun v => v.category).sum ≤ 8) (hdg : decode code pc = .ok (.invokevirtual ix, 3)) (hf : cells ≤ room_1.cells ∧ slots ≤ room_1.slots)
    (kk : ∀ (H1 : Heap) (locs1 : List Loc), wz_W dC dI A0 A K s x u o H1 locs1 → W p l e room_1 s m args below meth c H1 locs1 cells slots Q (F0 m (pc + 3) ls (.int (xs_at x i1) :: rest))) : W p l e room_1 s m args below meth c H locs cells slots Q (F0 m pc ls (.int i1 :: .ref (A 0) :: rest)) := by
  obtain ⟨n, tx, ⟨pv, nu, st, mo, jo, vo, re⟩, P, pr, hc, hd, ns, fs, fe, fl, fn, ft, f2, fv, fp, fc⟩ := x
  obtain ⟨th, mn, tb, mpv, wr, ks, km, kj, kv, kr, kx, kz, cn, mhc, md, ⟨ms, gs, ge, gn, gt, gp, gc⟩, kp, pz⟩ := u
  rcases pr with _ | r
  · exact x_at_n (pr := none) C hN hK hA i1 hok hW lk hsz hrst hdg hf kk
  · obtain ⟨k, hkr⟩ := hok.2.2.2.1 r rfl
    obtain ⟨pa, ps, pn, px, sd, pmo, pjo, pvo, pre⟩ := r
    exact x_at_s (pr := none) C hN hK hA k hkr i1 hok hW lk hsz hrst hdg hf kk
theorem X_read (C : CallFix p m c code 7 s args ga_tbl "PatternTextLaw") (hN : ga_N s) (hK : va_K (dC, dI) ga_cl (wz_T K) s) (hA : ∀ q, s.heap.size ≤ q → A0 q) (hE : sv_E ad av A0 s s.heap) (hok : wz_ok x) (hW : wz_W dC dI A0 A K s x u o H locs) (lk : Cond.methodLink "PatternTextLaw" ix y_Pa_read ∈ ga_tbl) (hsz : ls.size = 7) (hrst : (rest.map fun v => v.category).sum ≤ 8) (hdg : decode code pc = .ok (.invokevirtual ix, 3)) (hf : cells + 2 ≤ room_1.cells ∧ slots + 127 ≤ room_1.slots)
    (kk : ∀ (a b : Nat) (H1 : Heap) (locs1 : List Loc), wz_W dC dI A0 A K s (xs_read x a b).2 u o H1 locs1 → W p l e room_1 s m args below meth c H1 locs1 (cells + 2) (slots + 127) Q (F0 m (pc + 3) ls (.int (xs_read x a b).1 :: rest))) : W p l e room_1 s m args below meth c H locs cells slots Q (F0 m pc ls (.ref (A 0) :: rest)) := by
  obtain ⟨n, tx, ⟨pv, nu, st, mo, jo, vo, re⟩, P, pr, hc, hd, ns, fs, fe, fl, fn, ft, f2, fv, fp, fc⟩ := x
  obtain ⟨th, mn, tb, mpv, wr, ks, km, kj, kv, kr, kx, kz, cn, mhc, md, ⟨ms, gs, ge, gn, gt, gp, gc⟩, kp, pz⟩ := u
  have h2 : P.length ≤ 10 := hok.2.1
  rcases hu : (rd_und tx n nu st).1 with _ | _
  · simp only [xs_read, hu, cond_false] at kk
    exact x_read_f C hN hK hA hE hok hu hW lk hsz hrst hdg ⟨by omega, by omega⟩ (fun H1 L1 h => W.widen (k := cells + 2) (n := slots + 127) (by omega) (by omega) (kk 0 0 H1 L1 h))
  · by_cases h10 : P.length < 10
    · obtain ⟨sd, jo9, vo9, e1, ⟨b1, b1'⟩, e2, b2, e3, b3, -⟩ := und_in hu
      simp only [xs_read, hu, decide_eq_true h10, cond_true, xn_pat, e1, e2, e3] at kk
      rw [nI_clamp (show sd < 2 ^ 31 by omega), nI_clamp (show jo9 < 2 ^ 31 by omega), nI_clamp (show vo9 < 2 ^ 31 by omega)] at kk
      exact x_read_s C hN hK hA hE sd jo9 vo9 hok hu h10 e1 e2 e3 hW lk hsz hrst hdg hf kk
    · simp only [xs_read, hu, decide_eq_false h10, cond_true, cond_false] at kk
      exact x_read_n C hN hK hA hE hok hu (by omega) hW lk hsz hrst hdg ⟨by omega, by omega⟩ (fun H1 L1 h => W.widen (k := cells + 2) (n := slots + 127) (by omega) (by omega) (kk 0 0 H1 L1 h))
end WZT
