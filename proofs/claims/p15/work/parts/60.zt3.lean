section XTM
variable {s : State} {H : Heap} {locs : List Loc} {D : va_G} {cl : List vw_C} {A : Nat → Prop} {tys : List (ClassId × FieldType)} {ws : va_W} {aM : Nat}
theorem wy_mreSX {vs : List Value} {B : Nat → Prop} (hP : va_P D cl ws H) (hK : va_K D cl tys s) (hN : ga_N s) (hD : va_D B ws) (hE : xt_E aM A s s.heap) (hS : va_S A s.heap H locs) (hF : ∀ q, va_A ws H.size q → A q) : PreS s H (va_Pc vs (fun U => wy_M D cl ws tys H.size U ∧ xt_E aM (va_A ws H.size) U U.heap)) vs :=
  ⟨fun a U g mk q => by
    obtain ⟨q0, ⟨q1, qP, qK, qN, qD⟩, qE⟩ := q
    exact ⟨q0, ⟨q1, qP, va_K.moved (u := U) (U := U.calling g mk a) (Vm.Alike.refl U.vm) qK, ga_N.same (u := U) (U := U.calling g mk a) rfl qN, qD⟩, xt_E.same (u := U) (U := U.calling g mk a) rfl qE⟩, fun U hU hW => ⟨rfl, ⟨by rw [hU], by rw [hU]; exact hP, va_K.moved hW.alike hK, hN.warm hW, hD.weaken (fun _ _ _ _ => trivial)⟩, hE.at hS hF hW hU⟩⟩
end XTM
set_option maxHeartbeats 4000000 in
set_option maxRecDepth 100000 in
theorem c_La_yearly_z (l : Launch) (hst : l.stackTraces = false) (dC : Nat → ClassId) (dI : Nat → Nat → Nat) (sz : Nat) (xx : Nat) (rd : Nat) (qa : Nat) (ho : Nat) (li : Nat) (cn : Nat) (pr : Value) (cP : ClassId) (pf : Nat → Option Nat) (pq : Nat) (pa : Nat) (ou : Nat) (cL : ClassId) (ov : Nat → Int64) (dy : Nat) (aM : Nat) (hc0 : cn ≤ 10) (hk : pq < cn) (hpf : pf pq = some pa) (hdy : dy ≤ 1000000) : Met l y_La_yearly w_La_yearly ({ frames := 7, cells := 1, slots := 6, locals := 124 }) (va_Pc [.ref xx, .int (nI pq), .int (nI dy), .int 0, .ref ou] (fun U => wy_M (dC, dI) ga_cl [(xx, .inr (4, [.ref rd, .ref qa, .ref ho, .ref li, .int (nI cn), pr])), (qa, .inl (cP, 10, .inr (.inr (.inr (.inr pf))))), (ou, .inl (cL, 1, .inr (.inl ov)))] [(cP, .object "PatternText$Pattern"), (cL, .long)] sz U ∧ xt_E aM (va_A [(xx, .inr (4, [.ref rd, .ref qa, .ref ho, .ref li, .int (nI cn), pr])), (qa, .inl (cP, 10, .inr (.inr (.inr (.inr pf))))), (ou, .inl (cL, 1, .inr (.inl ov)))] sz) U U.heap)) (va_Qi (fun (r : Int32) (_ : Unit) => r = 1) (fun _ => wy_N (dC, dI) ga_cl [(cP, .object "PatternText$Pattern"), (cL, .long)] (va_A [(xx, .inr (4, [.ref rd, .ref qa, .ref ho, .ref li, .int (nI cn), pr])), (qa, .inl (cP, 10, .inr (.inr (.inr (.inr pf))))), (ou, .inl (cL, 1, .inr (.inl ov)))] sz) [(xx, .inr (4, [.ref rd, .ref qa, .ref ho, .ref li, .int (nI cn), pr])), (qa, .inl (cP, 10, .inr (.inr (.inr (.inr pf))))), (ou, .inl (cL, 1, .inr (.inl ov)))]) (va_A [(xx, .inr (4, [.ref rd, .ref qa, .ref ho, .ref li, .int (nI cn), pr])), (qa, .inl (cP, 10, .inr (.inr (.inr (.inr pf))))), (ou, .inl (cL, 1, .inr (.inl ov)))] sz)) 1 6 (va_A [(xx, .inr (4, [.ref rd, .ref qa, .ref ho, .ref li, .int (nI cn), pr])), (qa, .inl (cP, 10, .inr (.inr (.inr (.inr pf))))), (ou, .inl (cL, 1, .inr (.inl ov)))] sz) := by
  refine va_MetW (cc := b_La_yearly) (maxL := 6) (ret := (some .int)) (hh := [(0, 12, 15, 13)]) (by decide) rfl ?_
  intro p e s m args below meth c s₁ B hml hv
  obtain ⟨rfl, ⟨hsz, hP, hK, hN, hD0⟩, hE⟩ := hv
  have hx := B.exec
  have hb := B.bytes
  have hr := B.returns
  have hts : ∀ w ∈ ga_tbl, w.before _ s = true := fun w h => atoms_spec (ws := w_La_yearly) B.pre w (List.mem_cons_of_mem _ h)
  have hown : s.vm.findClass "PatternTextLaw" = some m.cls := findClass_of_methodNamed B.named
  have hlocks := B.notSynchronized
  subst hsz
  have hD := hD0.self (sz := s.heap.size)
  generalize hAe : va_A [(xx, .inr (4, [.ref rd, .ref qa, .ref ho, .ref li, .int (nI cn), pr])), (qa, .inl (cP, 10, .inr (.inr (.inr (.inr pf))))), (ou, .inl (cL, 1, .inr (.inl ov)))] s.heap.size = A at hD hE ⊢
  have hS : va_S A s.heap s.heap [] := va_S.rf
  obtain ⟨x, hxt, hx1⟩ : ∃ x, c.exceptionTable.toList = [x] ∧ (x.startPc, x.endPc, x.handlerPc, x.catchType) = (0, 12, 15, 13) := by
    obtain ⟨m9, meth9, c9, w1, w2, w3, -, -, w4, -⟩ := Cond.codeWith_spec (atoms_spec (ws := w_La_yearly) B.pre _ List.mem_cons_self)
    cases B.named.symm.trans w1
    cases B.method.symm.trans w2
    cases (Stand.of_body B).code.symm.trans w3
    exact List.map_eq_singleton_iff.mp w4
  simp only [Prod.mk.injEq] at hx1
  obtain ⟨x1, x2, x3, x4⟩ := hx1
  have hl := lv_entry ([.ref xx, .int (nI pq), .int (nI dy), .int 0, .ref ou]) (n := 6) (Nat.le_of_ble_eq_true rfl)
  rw [lg_entry_eq]
  generalize (lg_sl ([.ref xx, .int (nI pq), .int (nI dy), .int 0, .ref ou]) ++ List.replicate (6 - (lg_sl ([.ref xx, .int (nI pq), .int (nI dy), .int 0, .ref ou])).length) Slot.unset).toArray = ls at hl ⊢
  have hl : lv_has ls 6 [(0, .ref xx), (1, .int (nI pq)), (2, .int (nI dy)), (3, .int 0), (4, .ref ou)] := hl
  refine lv_aload hx hb d_La_yearly_0 (lv_at hl 4 rfl) ?_
  refine lv_iconst (v := 0) hx hb d_La_yearly_2 (by decide) ?_
  refine lv_aload_n hx hb d_La_yearly_3 rfl (lv_at hl 0 rfl) ?_
  refine lv_iload_n hx hb d_La_yearly_4 rfl (lv_at hl 1 rfl) ?_
  refine lv_iload_n hx hb d_La_yearly_5 rfl (lv_at hl 2 rfl) ?_
  refine lv_iload_n hx hb d_La_yearly_6 rfl (lv_at hl 3 rfl) ?_
  have hPc := hP.sub (ws' := [(xx, .inr (4, [.ref rd, .ref qa, .ref ho, .ref li, .int (nI cn), pr])), (qa, .inl (cP, 10, .inr (.inr (.inr (.inr pf)))))]) [0, 1] rfl
  have hKc := hK.sub (tys' := [(cP, .object "PatternText$Pattern")]) [0] rfl
  refine xt_call (X := xt_X) (C := "PatternText") (As := [.int (nI pq), .int (nI dy), .int 0]) (rest := [.int 0, .ref ou]) ⟨hx, hb, hml, hown, hts⟩ (t_Pa_yearly l hst dC dI xx rd qa ho li cn pr cP pf pq pa dy aM hc0 hk hpf hdy) (cwV 3 hts (ga_V kw_480 kw_481 kw_482 kw_34 (ga_in kw_483)) rfl rfl rfl (by decide +kernel) ⟨Nat.le_of_ble_eq_true rfl, Nat.le_of_ble_eq_true rfl⟩) ⟨fun a U g mk q => ?_, va_recv hKc hPc (ci := 4) (q0 := 0) rfl rfl, fun U hU hW => ?_⟩ rfl hl.1 rfl (Nat.le_of_ble_eq_true rfl) d_La_yearly_7 ⟨Nat.le_of_ble_eq_true rfl, Nat.le_of_ble_eq_true rfl⟩ hxt (by simp [covers, x1, x2]) (by rw [x4]; decide) (by rw [x4]; exact hts _ kw_479) (va_tabs (xt_face_t _ (by decide +kernel)) rfl (hE.1 _ (by decide +kernel))) (fun q H1 z1 z2 z3 => ?_)
  · obtain ⟨q0, ⟨qP, qK, qN⟩, qE⟩ := q
    exact ⟨q0, ⟨qP, va_K.moved (u := U) (U := U.calling g mk a) (Vm.Alike.refl U.vm) qK, ga_N.same (u := U) (U := U.calling g mk a) rfl qN⟩, xt_E.same (u := U) (U := U.calling g mk a) rfl qE⟩
  · exact ⟨rfl, ⟨by rw [hU]; exact hPc, va_K.moved hW.alike hKc, hN.warm hW⟩, hE.at hS (fun _ h => h.elim) hW hU⟩
  rw [x3]
  refine lv_astore (lv' := [(5, .ref q), (0, .ref xx), (1, .int (nI pq)), (2, .int (nI dy)), (3, .int 0), (4, .ref ou)]) hx hb d_La_yearly_15 hl (by decide) rfl (fun ls hl => ?_)
  refine lv_iconst (v := 1) hx hb d_La_yearly_17 (by decide) ?_
  have hP1 : va_P (dC, dI) ga_cl [(xx, .inr (4, [.ref rd, .ref qa, .ref ho, .ref li, .int (nI cn), pr])), (qa, .inl (cP, 10, .inr (.inr (.inr (.inr pf))))), (ou, .inl (cL, 1, .inr (.inl ov)))] H1 := hP.kept (fun k x hx => z3 x.1 ((hP k x hx).lt))
  have hS1 : va_S A s.heap H1 [] := ⟨z2, fun q hq _ => z3 q hq, fun _ h => by cases h⟩
  exact W.iret (v := 1) hx hb hr (fun t ht hW => ⟨⟨_, (), rfl, rfl, by rw [ht]; exact hP1, va_K.moved hW.alike hK, hD⟩, hS1.F ht⟩) hS1.2.2 d_La_yearly_18
section WZR
variable {p : Program} {l : Launch} {e : Env} {s : State} {m : MethodId} {args : Array Value} {below : List Frame} {meth : Method} {c : Code} {H : Heap} {locs : List Loc} {cells slots : Nat} {Q : State → Prop}
variable {pc ix : Nat} {ls : Array Slot} {rest : List Value} {dC : Nat → ClassId} {dI : Nat → Nat → Nat} {A0 : Nat → Prop} {A : Nat → Nat} {K : Nat → ClassId} {ad av : Nat → Nat} {x : wz_X} {u : wz_M} {o : Nat → Int64} {aM : Nat}
set_option maxHeartbeats 4000000 in
set_option maxRecDepth 100000 in
theorem x_yearly_z (C : CallFix p m c code 7 s args ga_tbl "PatternTextLaw") (hN : ga_N s) (hK : va_K (dC, dI) ga_cl (wz_T K) s) (hA : ∀ q, s.heap.size ≤ q → A0 q) (hst : l.stackTraces = false) (hE9 : xt_E aM A0 s s.heap) {n : Nat} {tx : Nat → Int32} {pv : Int32} {nu : Int32} {st : Int32} {mo : Int32} {jo : Int32} {vo : Int32} {re : Bool} {P : List wz_Pr} {pr : Option wz_Pr} {hc : Nat} {hd : Nat → Int32} {ns : Nat} {fs : Nat → Int32} {fe : Nat → Int32} {fl : Nat → Int32} {fn : Nat → Int32} {ft : Nat → Int32} {f2 : Nat → Int32} {fv : Nat → Int32} {fp : Nat → Int32} {fc : Nat → Int32} {th : Int32} {mn : Nat} {tb : Nat → Int32} {mpv : Int32} {wr : Int32} {ks : Nat → Int32} {km : Nat → Int32} {kj : Nat → Int32} {kv : Nat → Int32} {kr : Nat → Int32} {kx : Nat → Int32} {kz : Nat → Int32} {cn : Nat} {mhc : Nat} {md : Nat → Int32} {ms : Nat} {gs : Nat → Int32} {ge : Nat → Int32} {gn : Nat → Int32} {gt : Nat → Int32} {gp : Nat → Int32} {gc : Nat → Int32} {kp : Nat → Int32} {pz : Nat} {o : Nat → Int64} {pa ps pn : Nat} {px : Nat → Int32} {sd : Nat} {pmo : Int32} {pjo pvo : Nat} {pre : Bool} (k : Nat) (hkr : P[k]? = some (pa, ps, pn, px, sd, pmo, pjo, pvo, pre)) (dy : Nat) (hok : wz_ok (n, tx, (pv, nu, st, mo, jo, vo, re), P, pr, hc, hd, (ns, fs, fe, fl, fn, ft, f2, fv, fp, fc))) (hdy : dy ≤ 1000000) (hW : wz_W dC dI A0 A K s (n, tx, (pv, nu, st, mo, jo, vo, re), P, pr, hc, hd, (ns, fs, fe, fl, fn, ft, f2, fv, fp, fc)) (th, mn, tb, mpv, wr, ks, km, kj, kv, kr, kx, kz, cn, mhc, md, (ms, gs, ge, gn, gt, gp, gc), kp, pz) o H locs) (lk : Cond.methodLink "PatternTextLaw" ix y_La_yearly ∈ ga_tbl) (hsz : ls.size = 7) (hrst : (rest.map fun v => v.category).sum ≤ 8) (hdg : decode code pc = .ok (.invokestatic ix, 3)) (hf : cells + 1 ≤ room_1.cells ∧ slots + 6 ≤ room_1.slots)
    (kk : ∀ (H1 : Heap) (locs1 : List Loc), wz_W dC dI A0 A K s (n, tx, (pv, nu, st, mo, jo, vo, re), P, pr, hc, hd, (ns, fs, fe, fl, fn, ft, f2, fv, fp, fc)) (th, mn, tb, mpv, wr, ks, km, kj, kv, kr, kx, kz, cn, mhc, md, (ms, gs, ge, gn, gt, gp, gc), kp, pz) o H1 locs1 → W p l e room_1 s m args below meth c H1 locs1 (cells + 1) (slots + 6) Q (F0 m (pc + 3) ls (.int 1 :: rest))) : W p l e room_1 s m args below meth c H locs cells slots Q (F0 m pc ls (.ref (A 33) :: .int 0 :: .int (nI dy) :: .int (nI k) :: .ref (A 0) :: rest)) := by
  obtain ⟨hP, hD, hS⟩ := hW
  obtain ⟨rest9, hfo⟩ := wz_focus (X := []) (cI := K 0) hkr
  have hP : va_P (dC, dI) ga_cl ((wz_F A K (n, tx, (pv, nu, st, mo, jo, vo, re), P, pr, hc, hd, (ns, fs, fe, fl, fn, ft, f2, fv, fp, fc)) (th, mn, tb, mpv, wr, ks, km, kj, kv, kr, kx, kz, cn, mhc, md, (ms, gs, ge, gn, gt, gp, gc), kp, pz) o ++ wz_pc (K 0) k (pa, ps, pn, px, sd, pmo, pjo, pvo, pre)) ++ rest9) H := wz_P_perm (hfo _) hP
  have hD : va_D A0 ((wz_F A K (n, tx, (pv, nu, st, mo, jo, vo, re), P, pr, hc, hd, (ns, fs, fe, fl, fn, ft, f2, fv, fp, fc)) (th, mn, tb, mpv, wr, ks, km, kj, kv, kr, kx, kz, cn, mhc, md, (ms, gs, ge, gn, gt, gp, gc), kp, pz) o ++ wz_pc (K 0) k (pa, ps, pn, px, sd, pmo, pjo, pvo, pre)) ++ rest9) := wz_D_perm (hfo _) hD
  obtain ⟨h1, h2, h3, h4, h5, h6, h7⟩ := hok
  have hk9 := (List.getElem?_eq_some_iff.mp hkr).1
  have hpf9 : wz_pf P k = some pa := by unfold wz_pf; rw [hkr]; rfl
  have hF9 := va_free (wc := wz_get (wz_F A K (n, tx, (pv, nu, st, mo, jo, vo, re), P, pr, hc, hd, (ns, fs, fe, fl, fn, ft, f2, fv, fp, fc)) (th, mn, tb, mpv, wr, ks, km, kj, kv, kr, kx, kz, cn, mhc, md, (ms, gs, ge, gn, gt, gp, gc), kp, pz) o ++ wz_pc (K 0) k (pa, ps, pn, px, sd, pmo, pjo, pvo, pre)) [0, 3, 33]) hD hS hA [0, 3, 33] rfl
  refine wz_calli (X := wz_F A K (n, tx, (pv, nu, st, mo, jo, vo, re), P, pr, hc, hd, (ns, fs, fe, fl, fn, ft, f2, fv, fp, fc)) (th, mn, tb, mpv, wr, ks, km, kj, kv, kr, kx, kz, cn, mhc, md, (ms, gs, ge, gn, gt, gp, gc), kp, pz) o ++ wz_pc (K 0) k (pa, ps, pn, px, sd, pmo, pjo, pvo, pre)) (X1 := wz_F A K (n, tx, (pv, nu, st, mo, jo, vo, re), P, pr, hc, hd, (ns, fs, fe, fl, fn, ft, f2, fv, fp, fc)) (th, mn, tb, mpv, wr, ks, km, kj, kv, kr, kx, kz, cn, mhc, md, (ms, gs, ge, gn, gt, gp, gc), kp, pz) o ++ wz_pc (K 0) k (pa, ps, pn, px, sd, pmo, pjo, pvo, pre)) (wz_runSW (As := [.ref (A 0), .int (nI k), .int (nI dy), .int 0, .ref (A 33)]) (rest := rest) C (c_La_yearly_z l hst dC dI H.size (A 0) (A 1) (A 3) (A 4) (A 6) P.length (wz_pv pr) (K 1) (wz_pf P) k pa (A 33) (K 4) o dy aM (by omega) (hk9) (hpf9) (by omega)) (wz_cwSW 5 C.2.2.2.2 lk kw_477 kw_33 (wz_inW kw_478) rfl rfl rfl (by decide +kernel) ⟨Nat.le_of_ble_eq_true rfl, Nat.le_of_ble_eq_true rfl⟩) (wy_mreSX (hP.sub [0, 3, 33] rfl) (hK.sub [1, 4] rfl) hN (hD.sub [0, 3, 33] (by decide) rfl) hE9 hS hF9) rfl rfl hsz rfl (lv_room hrst) hdg hf) hP hD hS hA [0, 3, 33] [1, 2, 4, 5, 6, 7, 8, 9, 10, 11, 12, 13, 14, 15, 16, 17, 18, 19, 20, 21, 22, 23, 24, 25, 26, 27, 28, 29, 30, 31, 32, 34, 35] [33, 0, 1, 34, 2, 3, 4, 5, 6, 7, 8, 9, 10, 11, 12, 13, 14, 15, 16, 17, 18, 19, 20, 21, 22, 23, 24, 25, 26, 27, 28, 29, 30, 35, 31, 32] rfl rfl (by decide) (by decide) (by decide) rfl (fun H1 L1 hP hD hS => ?_)
  exact kk H1 L1 ⟨wz_P_perm (hfo _).symm hP, wz_D_perm (hfo _).symm hD, hS⟩
theorem X_yearly (C : CallFix p m c code 7 s args ga_tbl "PatternTextLaw") (hN : ga_N s) (hK : va_K (dC, dI) ga_cl (wz_T K) s) (hA : ∀ q, s.heap.size ≤ q → A0 q) (hst : l.stackTraces = false) (hE9 : xt_E aM A0 s s.heap) (hok : wz_ok x) (i1 i2 i3 : Int32) (hW : wz_W dC dI A0 A K s x u o H locs) (lk : Cond.methodLink "PatternTextLaw" ix y_La_yearly ∈ ga_tbl) (hsz : ls.size = 7) (hrst : (rest.map fun v => v.category).sum ≤ 8) (hdg : decode code pc = .ok (.invokestatic ix, 3)) (hf : cells + 1 ≤ room_1.cells ∧ slots + 6 ≤ room_1.slots)
    (kk : ∀ (H1 : Heap) (locs1 : List Loc), wz_W dC dI A0 A K s x u (xo_yearly x i1 i2 i3 o) H1 locs1 → W p l e room_1 s m args below meth c H1 locs1 (cells + 1) (slots + 6) Q (F0 m (pc + 3) ls (.int (xs_yearly x i1 i2 i3).1 :: rest))) : W p l e room_1 s m args below meth c H locs cells slots Q (F0 m pc ls (.ref (A 33) :: .int i3 :: .int i2 :: .int i1 :: .ref (A 0) :: rest)) := by
  by_cases hnt : (xs_yearly x i1 i2 i3).1 = 0
  · exact X_yearly_q C hN hK hA hok i1 i2 i3 hnt hW lk hsz hrst hdg ⟨Nat.le_trans (Nat.le_add_right _ _) hf.1, Nat.le_trans (Nat.le_add_right _ _) hf.2⟩ (fun H1 L1 h => W.widen (k := cells + 1) (n := slots + 6) (by omega) (by omega) (kk H1 L1 h))
  · unfold xo_yearly at kk
    rw [if_neg hnt] at kk
    obtain ⟨n, tx, ⟨pv, nu, st, mo, jo, vo, re⟩, P, pr, hc, hd, ns, fs, fe, fl, fn, ft, f2, fv, fp, fc⟩ := x
    obtain ⟨th, mn, tb, mpv, wr, ks, km, kj, kv, kr, kx, kz, cn, mhc, md, ⟨ms, gs, ge, gn, gt, gp, gc⟩, kp, pz⟩ := u
    have h2 : P.length ≤ 10 := hok.2.1
    rcases hp : xp_at P i1 with _ | r
    · simp only [xs_yearly, hp] at hnt
      exact absurd trivial hnt
    · obtain ⟨k, hk, hkr, rfl⟩ := xp_some h2 hp
      obtain ⟨pa, ps, pn, px, sd, pmo, pjo, pvo, pre⟩ := r
      rcases hb : mo_day i2 with _ | _
      · simp only [xs_yearly, hp, hb, cond_false] at hnt
        exact absurd trivial hnt
      · obtain ⟨dy, hdy, rfl⟩ := mo_day_of hb
        by_cases hz : i3 = 0
        · subst hz
          simp only [xs_yearly, hp, hb, cond_true, if_pos] at kk
          exact x_yearly_z C hN hK hA hst hE9 k hkr dy hok hdy hW lk hsz hrst hdg hf kk
        · simp only [xs_yearly, hp, hb, cond_true, if_neg hz] at hnt
          exact absurd trivial hnt
end WZR
