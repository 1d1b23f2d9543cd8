set_option maxHeartbeats 4000000 in
set_option maxRecDepth 100000 in
theorem c_Pa_isDay (l : Launch) (dC : Nat → ClassId) (dI : Nat → Nat → Nat) (x : Int32) : Met l y_Pa_isDay w_Pa_isDay ({ frames := 0, cells := 0, slots := 0, locals := 0 }) (va_Pc [.int x] (wy_R (dC, dI) ga_cl [] [])) (vp_Si (fun r => r = bo_I (mo_day x))) 0 0 (fun _ => False) := by
  refine Met.ofW (cc := b_Pa_isDay) (maxL := 1) (ret := (some .boolean)) (by decide) rfl ?_
  intro p e s m args below meth c s₁ B hml hv
  obtain ⟨rfl, hP, hK, hN⟩ := hv
  have hx := B.exec
  have hb := B.bytes
  have hr := B.returns
  have hts : ∀ w ∈ ga_tbl, w.before _ s = true := fun w h => atoms_spec (ws := w_Pa_isDay) B.pre w (List.mem_cons_of_mem _ h)
  have hown : s.vm.findClass "PatternText" = some m.cls := findClass_of_methodNamed B.named
  have hlocks := B.notSynchronized
  have hl := lv_entry ([.int x]) (n := 1) (Nat.le_of_ble_eq_true rfl)
  rw [lg_entry_eq]
  generalize (lg_sl ([.int x]) ++ List.replicate (1 - (lg_sl ([.int x])).length) Slot.unset).toArray = ls at hl ⊢
  have hl : lv_has ls 1 [(0, .int x)] := hl
  refine lv_iload_n hx hb d_Pa_isDay_0 rfl (lv_at hl 0 rfl) ?_
  refine lv_if_lt (tgt := 14) hx hb d_Pa_isDay_1 (by decide) (fun c_1 => ?_) (fun c_1 => ?_)
  · refine lv_iconst (v := 0) hx hb d_Pa_isDay_14 (by decide) ?_
    have z9 : mo_day x = false := by simp only [mo_day, Bool.or_eq_false_iff, Bool.and_eq_false_iff, decide_eq_false_iff_not, Int32.le_iff_toInt_le, Int32.lt_iff_toInt_lt, Int32.reduceToInt] at *; omega
    have q9 : (0 : Int32) = bo_I (mo_day x) := by rw [z9]; rfl
    exact W.zret (v := 0) hx hb hr rfl (fun t ht _ => ⟨_, rfl, q9, ht⟩) (fun _ h9 => by cases h9) d_Pa_isDay_15
  · refine lv_iload_n hx hb d_Pa_isDay_4 rfl (lv_at hl 0 rfl) ?_
    refine lv_ldc (v := 1000000) hx hb hown (hts _ kw_353) d_Pa_isDay_5 ?_
    refine lv_icmp_gt (tgt := 14) hx hb d_Pa_isDay_7 (by decide) (fun c_7 => ?_) (fun c_7 => ?_)
    · refine lv_iconst (v := 0) hx hb d_Pa_isDay_14 (by decide) ?_
      have z9 : mo_day x = false := by simp only [mo_day, Bool.or_eq_false_iff, Bool.and_eq_false_iff, decide_eq_false_iff_not, Int32.le_iff_toInt_le, Int32.lt_iff_toInt_lt, Int32.reduceToInt] at *; omega
      have q9 : (0 : Int32) = bo_I (mo_day x) := by rw [z9]; rfl
      exact W.zret (v := 0) hx hb hr rfl (fun t ht _ => ⟨_, rfl, q9, ht⟩) (fun _ h9 => by cases h9) d_Pa_isDay_15
    · refine lv_iconst (v := 1) hx hb d_Pa_isDay_10 (by decide) ?_
      refine lv_goto (tgt := 15) hx hb d_Pa_isDay_11 (by decide) ?_
      have z9 : mo_day x = true := by simp only [mo_day, Bool.or_eq_true, Bool.and_eq_true, decide_eq_true_eq, Int32.le_iff_toInt_le, Int32.lt_iff_toInt_lt, Int32.reduceToInt] at *; omega
      have q9 : (1 : Int32) = bo_I (mo_day x) := by rw [z9]; rfl
      exact W.zret (v := 1) hx hb hr rfl (fun t ht _ => ⟨_, rfl, q9, ht⟩) (fun _ h9 => by cases h9) d_Pa_isDay_15

set_option maxHeartbeats 4000000 in
set_option maxRecDepth 100000 in
theorem c_Pa_sign (l : Launch) (dC : Nat → ClassId) (dI : Nat → Nat → Nat) (sz : Nat) (xx : Nat) (rd : Nat) (qa : Nat) (ho : Nat) (li : Nat) (cn : Nat) (pr : Value) (sa : Nat) (cI : ClassId) (tx : Nat → Int32) (n : Nat) (pv : Int32) (nu : Int32) (st : Int32) (mo : Int32) (jo : Int32) (vo : Int32) (re : Bool) (x : Int32) (hn : n ≤ 120) : Met l y_Pa_sign w_Pa_sign ({ frames := 1, cells := 0, slots := 0, locals := 21 }) (va_Pc [.ref xx, .int x] (wy_M (dC, dI) ga_cl [(xx, .inr (4, [.ref rd, .ref qa, .ref ho, .ref li, .int (nI cn), pr])), (rd, .inr (3, [.ref sa, .int (nI n), .int pv, .int nu, .int st, .int mo, .int jo, .int vo, .int (bo_I re)])), (sa, .inl (cI, 120, .inl tx))] [(cI, .int)] sz)) (va_Qv (fun (_ : Unit) => True) (fun _ => wy_N (dC, dI) ga_cl [(cI, .int)] (va_A [(xx, .inr (4, [.ref rd, .ref qa, .ref ho, .ref li, .int (nI cn), pr])), (rd, .inr (3, [.ref sa, .int (nI n), .int pv, .int nu, .int st, .int mo, .int jo, .int vo, .int (bo_I re)])), (sa, .inl (cI, 120, .inl tx))] sz) [(xx, .inr (4, [.ref rd, .ref qa, .ref ho, .ref li, .int (nI cn), pr])), (rd, .inr (3, [.ref sa, .int (nI (if n < 120 then n + 1 else n)), .int pv, .int nu, .int st, .int mo, .int jo, .int vo, .int (bo_I re)])), (sa, .inl (cI, 120, .inl (if n < 120 then upd tx n (x &&& 255) else tx)))]) (va_A [(xx, .inr (4, [.ref rd, .ref qa, .ref ho, .ref li, .int (nI cn), pr])), (rd, .inr (3, [.ref sa, .int (nI n), .int pv, .int nu, .int st, .int mo, .int jo, .int vo, .int (bo_I re)])), (sa, .inl (cI, 120, .inl tx))] sz)) 0 0 (va_A [(xx, .inr (4, [.ref rd, .ref qa, .ref ho, .ref li, .int (nI cn), pr])), (rd, .inr (3, [.ref sa, .int (nI n), .int pv, .int nu, .int st, .int mo, .int jo, .int vo, .int (bo_I re)])), (sa, .inl (cI, 120, .inl tx))] sz) := by
  refine Met.ofW (cc := b_Pa_sign) (maxL := 2) (ret := none) (by decide) rfl ?_
  intro p e s m args below meth c s₁ B hml hv
  obtain ⟨rfl, hsz, hP, hK, hN, hD0⟩ := hv
  have hx := B.exec
  have hb := B.bytes
  have hr := B.returns
  have hts : ∀ w ∈ ga_tbl, w.before _ s = true := fun w h => atoms_spec (ws := w_Pa_sign) B.pre w (List.mem_cons_of_mem _ h)
  have hown : s.vm.findClass "PatternText" = some m.cls := findClass_of_methodNamed B.named
  have hlocks := B.notSynchronized
  subst hsz
  have hD := hD0.self (sz := s.heap.size)
  generalize hAe : va_A [(xx, .inr (4, [.ref rd, .ref qa, .ref ho, .ref li, .int (nI cn), pr])), (rd, .inr (3, [.ref sa, .int (nI n), .int pv, .int nu, .int st, .int mo, .int jo, .int vo, .int (bo_I re)])), (sa, .inl (cI, 120, .inl tx))] s.heap.size = A at hD ⊢
  have hA : ∀ q : Nat, s.heap.size ≤ q → A q := fun q h => by rw [← hAe]; exact Or.inr h
  have hS : va_S A s.heap s.heap [] := va_S.rf
  have hl := lv_entry ([.ref xx, .int x]) (n := 2) (Nat.le_of_ble_eq_true rfl)
  rw [lg_entry_eq]
  generalize (lg_sl ([.ref xx, .int x]) ++ List.replicate (2 - (lg_sl ([.ref xx, .int x])).length) Slot.unset).toArray = ls at hl ⊢
  have hl : lv_has ls 2 [(0, .ref xx), (1, .int x)] := hl
  obtain ⟨Q0, hQ⟩ : ∃ Q0 : State → Prop, Q0 = MQ below (va_Qv (fun (_ : Unit) => True) (fun _ => wy_N (dC, dI) ga_cl [(cI, .int)] A [(xx, .inr (4, [.ref rd, .ref qa, .ref ho, .ref li, .int (nI cn), pr])), (rd, .inr (3, [.ref sa, .int (nI (if n < 120 then n + 1 else n)), .int pv, .int nu, .int st, .int mo, .int jo, .int vo, .int (bo_I re)])), (sa, .inl (cI, 120, .inl (if n < 120 then upd tx n (x &&& 255) else tx)))]) A) ([.ref xx, .int x] : List Value).toArray s 0 0 A := ⟨_, rfl⟩
  show W p l e ({ frames := 1, cells := 0, slots := 0, locals := 21 }) s m ([.ref xx, .int x] : List Value).toArray below meth c s.heap [] 0 0 (MQ below (va_Qv (fun (_ : Unit) => True) (fun _ => wy_N (dC, dI) ga_cl [(cI, .int)] A [(xx, .inr (4, [.ref rd, .ref qa, .ref ho, .ref li, .int (nI cn), pr])), (rd, .inr (3, [.ref sa, .int (nI (if n < 120 then n + 1 else n)), .int pv, .int nu, .int st, .int mo, .int jo, .int vo, .int (bo_I re)])), (sa, .inl (cI, 120, .inl (if n < 120 then upd tx n (x &&& 255) else tx)))]) A) ([.ref xx, .int x] : List Value).toArray s 0 0 A) (F0 m 0 ls [])
  rw [← hQ]
  refine lv_aload_n hx hb d_Pa_sign_0 rfl (lv_at hl 0 rfl) ?_
  refine va_get (D := (dC, dI)) (ci := 4) (v := .ref rd) (C := "PatternText") (T := F_Pa) (N := 6) hx hb hts iw_Pa hown hK hP 0 rfl rfl 0 (by decide) (hts _ kw_155) (fun _ h9 => h9) rfl d_Pa_sign_1 ?_
  refine lv_iload_n hx hb d_Pa_sign_4 rfl (lv_at hl 1 rfl) ?_
  refine lv_sipush (v := 255) hx hb d_Pa_sign_5 (by decide) ?_
  refine lv_iand hx hb d_Pa_sign_8 ?_
  refine wy_callv (wr := [(xx, .inr (4, [.ref rd, .ref qa, .ref ho, .ref li, .int (nI cn), pr]))]) (w1 := [(rd, .inr (3, [.ref sa, .int (nI (if n < 120 then n + 1 else n)), .int pv, .int nu, .int st, .int mo, .int jo, .int vo, .int (bo_I re)])), (sa, .inl (cI, 120, .inl (if n < 120 then upd tx n (x &&& 255) else tx)))]) (va_runV (As := [.int (x &&& 255)]) (rest := []) ⟨hx, hb, hml, hown, hts⟩ (c_Rd_collect l dC dI s.heap.size rd sa cI tx n pv nu st mo jo vo re (x &&& 255) (by omega)) (cwV 1 hts (ga_V kw_178 kw_179 kw_180 kw_35 (ga_in kw_181)) rfl rfl rfl (by decide +kernel) ⟨Nat.le_of_ble_eq_true rfl, Nat.le_of_ble_eq_true rfl⟩) (wy_mreV 0 (hP.sub (ws' := [(rd, .inr (3, [.ref sa, .int (nI n), .int pv, .int nu, .int st, .int mo, .int jo, .int vo, .int (bo_I re)])), (sa, .inl (cI, 120, .inl tx))]) [1, 2] rfl) (hK.sub (tys' := [(cI, .int)]) [0] rfl) hN (hD.sub (ws' := [(rd, .inr (3, [.ref sa, .int (nI n), .int pv, .int nu, .int st, .int mo, .int jo, .int vo, .int (bo_I re)])), (sa, .inl (cI, 120, .inl tx))]) [1, 2] (by decide) rfl) (ci := 3) rfl rfl rfl) rfl rfl hl.1 rfl (lv_room (Nat.le_of_ble_eq_true rfl)) d_Pa_sign_9 ⟨Nat.le_of_ble_eq_true rfl, Nat.le_of_ble_eq_true rfl⟩) hP hD hS hA [1, 2] [0] rfl rfl (by decide) (by decide) (fun H locs hP hD hS => ?_)
  have hP := hP.sub (ws' := [(xx, .inr (4, [.ref rd, .ref qa, .ref ho, .ref li, .int (nI cn), pr])), (rd, .inr (3, [.ref sa, .int (nI (if n < 120 then n + 1 else n)), .int pv, .int nu, .int st, .int mo, .int jo, .int vo, .int (bo_I re)])), (sa, .inl (cI, 120, .inl (if n < 120 then upd tx n (x &&& 255) else tx)))]) [0, 1, 2] rfl
  have hD := hD.sub (ws' := [(xx, .inr (4, [.ref rd, .ref qa, .ref ho, .ref li, .int (nI cn), pr])), (rd, .inr (3, [.ref sa, .int (nI (if n < 120 then n + 1 else n)), .int pv, .int nu, .int st, .int mo, .int jo, .int vo, .int (bo_I re)])), (sa, .inl (cI, 120, .inl (if n < 120 then upd tx n (x &&& 255) else tx)))]) [0, 1, 2] (by decide) rfl
  rw [hQ]
  have e9 : ([(xx, .inr (4, [.ref rd, .ref qa, .ref ho, .ref li, .int (nI cn), pr])), (rd, .inr (3, [.ref sa, .int (nI (if n < 120 then n + 1 else n)), .int pv, .int nu, .int st, .int mo, .int jo, .int vo, .int (bo_I re)])), (sa, .inl (cI, 120, .inl (if n < 120 then upd tx n (x &&& 255) else tx)))] : va_W) = [(xx, .inr (4, [.ref rd, .ref qa, .ref ho, .ref li, .int (nI cn), pr])), (rd, .inr (3, [.ref sa, .int (nI (if n < 120 then n + 1 else n)), .int pv, .int nu, .int st, .int mo, .int jo, .int vo, .int (bo_I re)])), (sa, .inl (cI, 120, .inl (if n < 120 then upd tx n (x &&& 255) else tx)))] := by rfl
  exact W.vret hx hb hr (fun t ht hW => ⟨⟨(), rfl, trivial, by rw [ht, e9]; exact hP, va_K.moved hW.alike hK, by rw [e9]; exact hD⟩, hS.F ht⟩) hS.2.2 d_Pa_sign_12

set_option maxHeartbeats 4000000 in
set_option maxRecDepth 100000 in
theorem c_Pa_issue (l : Launch) (dC : Nat → ClassId) (dI : Nat → Nat → Nat) (xx : Nat) (rd : Nat) (qa : Nat) (ho : Nat) (li : Nat) (cn : Nat) (pr : Value) (a0 : Nat) (a1 : Nat) (a2 : Nat) (a3 : Nat) (a4 : Nat) (a5 : Nat) (a6 : Nat) (a7 : Nat) (a8 : Nat) (ns : Nat) (cI : ClassId) (ft : Nat → Int32) (fn : Nat → Int32) (fv : Nat → Int32) (f2 : Nat → Int32) (fp : Nat → Int32) (fc : Nat → Int32) (x : Int32) (y : Int32) (hn : ns ≤ 100) : Met l y_Pa_issue w_Pa_issue ({ frames := 2, cells := 0, slots := 0, locals := 42 }) (va_Pc [.ref xx, .int x, .int y] (wy_R (dC, dI) ga_cl [(xx, .inr (4, [.ref rd, .ref qa, .ref ho, .ref li, .int (nI cn), pr])), (li, .inr (1, [.ref a0, .ref a1, .ref a2, .ref a3, .ref a4, .ref a5, .ref a6, .ref a7, .ref a8, .int (nI ns)])), (a3, .inl (cI, 100, .inl fn)), (a4, .inl (cI, 100, .inl ft)), (a5, .inl (cI, 100, .inl f2)), (a6, .inl (cI, 100, .inl fv)), (a7, .inl (cI, 100, .inl fp)), (a8, .inl (cI, 100, .inl fc))] [(cI, .int)])) (vp_Si (fun r => r = pa_iss ns ft fn fv f2 fp fc x y)) 0 0 (fun _ => False) := by
  refine Met.ofW (cc := b_Pa_issue) (maxL := 3) (ret := (some .int)) (by decide) rfl ?_
  intro p e s m args below meth c s₁ B hml hv
  obtain ⟨rfl, hP, hK, hN⟩ := hv
  have hx := B.exec
  have hb := B.bytes
  have hr := B.returns
  have hts : ∀ w ∈ ga_tbl, w.before _ s = true := fun w h => atoms_spec (ws := w_Pa_issue) B.pre w (List.mem_cons_of_mem _ h)
  have hown : s.vm.findClass "PatternText" = some m.cls := findClass_of_methodNamed B.named
  have hlocks := B.notSynchronized
  have hl := lv_entry ([.ref xx, .int x, .int y]) (n := 3) (Nat.le_of_ble_eq_true rfl)
  rw [lg_entry_eq]
  generalize (lg_sl ([.ref xx, .int x, .int y]) ++ List.replicate (3 - (lg_sl ([.ref xx, .int x, .int y])).length) Slot.unset).toArray = ls at hl ⊢
  have hl : lv_has ls 3 [(0, .ref xx), (1, .int x), (2, .int y)] := hl
  refine lv_aload_n hx hb d_Pa_issue_0 rfl (lv_at hl 0 rfl) ?_
  refine va_get (D := (dC, dI)) (ci := 4) (v := .ref li) (C := "PatternText") (T := F_Pa) (N := 6) hx hb hts iw_Pa hown hK hP 0 rfl rfl 3 (by decide) (hts _ kw_158) (fun _ h9 => h9) rfl d_Pa_issue_1 ?_
  refine lv_iload_n hx hb d_Pa_issue_4 rfl (lv_at hl 1 rfl) ?_
  refine vp_callSi (va_runV (As := [.int x]) (rest := []) ⟨hx, hb, hml, hown, hts⟩ (c_Li_has l dC dI li a0 a1 a2 a3 a4 a5 a6 a7 a8 ns x ) (cwV 1 hts (ga_V kw_419 kw_412 kw_413 kw_37 (ga_in kw_414)) rfl rfl rfl (by decide +kernel) ⟨Nat.le_of_ble_eq_true rfl, Nat.le_of_ble_eq_true rfl⟩) (wy_preV 0 (hP.sub (ws' := [(li, .inr (1, [.ref a0, .ref a1, .ref a2, .ref a3, .ref a4, .ref a5, .ref a6, .ref a7, .ref a8, .int (nI ns)]))]) [1] rfl) (hK.sub (tys' := []) [] rfl) hN (ci := 1) rfl rfl rfl) rfl rfl hl.1 rfl (lv_room (Nat.le_of_ble_eq_true rfl)) d_Pa_issue_5 ⟨Nat.le_of_ble_eq_true rfl, Nat.le_of_ble_eq_true rfl⟩).run (fun r_5 h_5 => ?_)
  subst h_5
  refine wy_ifneB (tgt := 13) hx hb d_Pa_issue_8 (by decide) (fun c_8 => ?_) (fun c_8 => ?_)
  · obtain ⟨k, hk, rfl⟩ := li_has_of (by omega) c_8
    have c_8 : li_has ns (nI k) = true := by rw [li_has_nI (by omega) (by omega), decide_eq_true hk]
    refine lv_iload_n hx hb d_Pa_issue_13 rfl (lv_at hl 2 rfl) ?_
    rcases sw_0_5 y with c_14 | c_14 | c_14 | c_14 | c_14 | c_14 | c_14
    · refine lv_tableOut (tgt := 119) hx hb d_Pa_issue_14 c_14 (by decide) ?_
      refine lv_iconst (v := -1) hx hb d_Pa_issue_119 (by decide) ?_
      have z9 : pa_iss ns ft fn fv f2 fp fc (nI k) y = (-1) := by unfold pa_iss; rw [if_pos c_8, nI_clamp (by omega)]; rw [if_neg (sw_no c_14 0 (by decide) (by decide)), if_neg (sw_no c_14 1 (by decide) (by decide)), if_neg (sw_no c_14 2 (by decide) (by decide)), if_neg (sw_no c_14 3 (by decide) (by decide)), if_neg (sw_no c_14 4 (by decide) (by decide)), if_neg (sw_no c_14 5 (by decide) (by decide))]
      have q9 : ((-1) : Int32) = pa_iss ns ft fn fv f2 fp fc (nI k) y := by rw [z9]
      exact W.iret (v := (-1)) hx hb hr (fun t ht _ => ⟨_, rfl, q9, ht⟩) (fun _ h9 => by cases h9) d_Pa_issue_120
    · refine lv_tableIn (tgt := 52) (off := 38) hx hb d_Pa_issue_14 (by rw [c_14]; decide) (by rw [c_14]; decide) (by rw [c_14]; rfl) (by decide) ?_
      refine lv_aload_n hx hb d_Pa_issue_52 rfl (lv_at hl 0 rfl) ?_
      refine va_get (D := (dC, dI)) (ci := 4) (v := .ref li) (C := "PatternText") (T := F_Pa) (N := 6) hx hb hts iw_Pa hown hK hP 0 rfl rfl 3 (by decide) (hts _ kw_158) (fun _ h9 => h9) rfl d_Pa_issue_53 ?_
      refine va_getN (D := (dC, dI)) (ci := 1) (v := .ref a4) (C := "PatternText$IssueList") (T := F_Li) (N := 10) hx hb hts iw_Li hown hK hP 1 rfl rfl 4 (by decide) (nw_123 hN) (fun _ h9 => h9) rfl d_Pa_issue_56 ?_
      refine lv_iload_n hx hb d_Pa_issue_59 rfl (lv_at hl 1 rfl) ?_
      refine wy_iald hx hb hK hP 3 0 k rfl rfl (by omega) (by omega) d_Pa_issue_60 ?_
      have z9 : pa_iss ns ft fn fv f2 fp fc (nI k) y = ft k := by unfold pa_iss; rw [if_pos c_8, nI_clamp (by omega)]; subst c_14; rw [if_pos rfl]
      have q9 : (ft k : Int32) = pa_iss ns ft fn fv f2 fp fc (nI k) y := by rw [z9]
      exact W.iret (v := ft k) hx hb hr (fun t ht _ => ⟨_, rfl, q9, ht⟩) (fun _ h9 => by cases h9) d_Pa_issue_61
    · refine lv_tableIn (tgt := 62) (off := 48) hx hb d_Pa_issue_14 (by rw [c_14]; decide) (by rw [c_14]; decide) (by rw [c_14]; rfl) (by decide) ?_
      refine lv_aload_n hx hb d_Pa_issue_62 rfl (lv_at hl 0 rfl) ?_
      refine va_get (D := (dC, dI)) (ci := 4) (v := .ref li) (C := "PatternText") (T := F_Pa) (N := 6) hx hb hts iw_Pa hown hK hP 0 rfl rfl 3 (by decide) (hts _ kw_158) (fun _ h9 => h9) rfl d_Pa_issue_63 ?_
      refine va_getN (D := (dC, dI)) (ci := 1) (v := .ref a3) (C := "PatternText$IssueList") (T := F_Li) (N := 10) hx hb hts iw_Li hown hK hP 1 rfl rfl 3 (by decide) (nw_121 hN) (fun _ h9 => h9) rfl d_Pa_issue_66 ?_
      refine lv_iload_n hx hb d_Pa_issue_69 rfl (lv_at hl 1 rfl) ?_
      refine wy_iald hx hb hK hP 2 0 k rfl rfl (by omega) (by omega) d_Pa_issue_70 ?_
      have z9 : pa_iss ns ft fn fv f2 fp fc (nI k) y = fn k := by unfold pa_iss; rw [if_pos c_8, nI_clamp (by omega)]; subst c_14; rw [if_neg (by decide)]; rw [if_pos rfl]
      have q9 : (fn k : Int32) = pa_iss ns ft fn fv f2 fp fc (nI k) y := by rw [z9]
      exact W.iret (v := fn k) hx hb hr (fun t ht _ => ⟨_, rfl, q9, ht⟩) (fun _ h9 => by cases h9) d_Pa_issue_71
    · refine lv_tableIn (tgt := 72) (off := 58) hx hb d_Pa_issue_14 (by rw [c_14]; decide) (by rw [c_14]; decide) (by rw [c_14]; rfl) (by decide) ?_
      refine lv_aload_n hx hb d_Pa_issue_72 rfl (lv_at hl 0 rfl) ?_
      refine va_get (D := (dC, dI)) (ci := 4) (v := .ref li) (C := "PatternText") (T := F_Pa) (N := 6) hx hb hts iw_Pa hown hK hP 0 rfl rfl 3 (by decide) (hts _ kw_158) (fun _ h9 => h9) rfl d_Pa_issue_73 ?_
      refine va_getN (D := (dC, dI)) (ci := 1) (v := .ref a6) (C := "PatternText$IssueList") (T := F_Li) (N := 10) hx hb hts iw_Li hown hK hP 1 rfl rfl 6 (by decide) (nw_127 hN) (fun _ h9 => h9) rfl d_Pa_issue_76 ?_
      refine lv_iload_n hx hb d_Pa_issue_79 rfl (lv_at hl 1 rfl) ?_
      refine wy_iald hx hb hK hP 5 0 k rfl rfl (by omega) (by omega) d_Pa_issue_80 ?_
      have z9 : pa_iss ns ft fn fv f2 fp fc (nI k) y = fv k := by unfold pa_iss; rw [if_pos c_8, nI_clamp (by omega)]; subst c_14; rw [if_neg (by decide)]; rw [if_neg (by decide)]; rw [if_pos rfl]
      have q9 : (fv k : Int32) = pa_iss ns ft fn fv f2 fp fc (nI k) y := by rw [z9]
      exact W.iret (v := fv k) hx hb hr (fun t ht _ => ⟨_, rfl, q9, ht⟩) (fun _ h9 => by cases h9) d_Pa_issue_81
    · refine lv_tableIn (tgt := 82) (off := 68) hx hb d_Pa_issue_14 (by rw [c_14]; decide) (by rw [c_14]; decide) (by rw [c_14]; rfl) (by decide) ?_
      refine lv_aload_n hx hb d_Pa_issue_82 rfl (lv_at hl 0 rfl) ?_
      refine va_get (D := (dC, dI)) (ci := 4) (v := .ref li) (C := "PatternText") (T := F_Pa) (N := 6) hx hb hts iw_Pa hown hK hP 0 rfl rfl 3 (by decide) (hts _ kw_158) (fun _ h9 => h9) rfl d_Pa_issue_83 ?_
      refine va_getN (D := (dC, dI)) (ci := 1) (v := .ref a5) (C := "PatternText$IssueList") (T := F_Li) (N := 10) hx hb hts iw_Li hown hK hP 1 rfl rfl 5 (by decide) (nw_125 hN) (fun _ h9 => h9) rfl d_Pa_issue_86 ?_
      refine lv_iload_n hx hb d_Pa_issue_89 rfl (lv_at hl 1 rfl) ?_
      refine wy_iald hx hb hK hP 4 0 k rfl rfl (by omega) (by omega) d_Pa_issue_90 ?_
      have z9 : pa_iss ns ft fn fv f2 fp fc (nI k) y = f2 k := by unfold pa_iss; rw [if_pos c_8, nI_clamp (by omega)]; subst c_14; rw [if_neg (by decide)]; rw [if_neg (by decide)]; rw [if_neg (by decide)]; rw [if_pos rfl]
      have q9 : (f2 k : Int32) = pa_iss ns ft fn fv f2 fp fc (nI k) y := by rw [z9]
      exact W.iret (v := f2 k) hx hb hr (fun t ht _ => ⟨_, rfl, q9, ht⟩) (fun _ h9 => by cases h9) d_Pa_issue_91
    · refine lv_tableIn (tgt := 92) (off := 78) hx hb d_Pa_issue_14 (by rw [c_14]; decide) (by rw [c_14]; decide) (by rw [c_14]; rfl) (by decide) ?_
      refine lv_aload_n hx hb d_Pa_issue_92 rfl (lv_at hl 0 rfl) ?_
      refine va_get (D := (dC, dI)) (ci := 4) (v := .ref li) (C := "PatternText") (T := F_Pa) (N := 6) hx hb hts iw_Pa hown hK hP 0 rfl rfl 3 (by decide) (hts _ kw_158) (fun _ h9 => h9) rfl d_Pa_issue_93 ?_
      refine va_getN (D := (dC, dI)) (ci := 1) (v := .ref a7) (C := "PatternText$IssueList") (T := F_Li) (N := 10) hx hb hts iw_Li hown hK hP 1 rfl rfl 7 (by decide) (nw_129 hN) (fun _ h9 => h9) rfl d_Pa_issue_96 ?_
      refine lv_iload_n hx hb d_Pa_issue_99 rfl (lv_at hl 1 rfl) ?_
      refine wy_iald hx hb hK hP 6 0 k rfl rfl (by omega) (by omega) d_Pa_issue_100 ?_
      have z9 : pa_iss ns ft fn fv f2 fp fc (nI k) y = fp k := by unfold pa_iss; rw [if_pos c_8, nI_clamp (by omega)]; subst c_14; rw [if_neg (by decide)]; rw [if_neg (by decide)]; rw [if_neg (by decide)]; rw [if_neg (by decide)]; rw [if_pos rfl]
      have q9 : (fp k : Int32) = pa_iss ns ft fn fv f2 fp fc (nI k) y := by rw [z9]
      exact W.iret (v := fp k) hx hb hr (fun t ht _ => ⟨_, rfl, q9, ht⟩) (fun _ h9 => by cases h9) d_Pa_issue_101
    · refine lv_tableIn (tgt := 102) (off := 88) hx hb d_Pa_issue_14 (by rw [c_14]; decide) (by rw [c_14]; decide) (by rw [c_14]; rfl) (by decide) ?_
      refine lv_aload_n hx hb d_Pa_issue_102 rfl (lv_at hl 0 rfl) ?_
      refine va_get (D := (dC, dI)) (ci := 4) (v := .ref li) (C := "PatternText") (T := F_Pa) (N := 6) hx hb hts iw_Pa hown hK hP 0 rfl rfl 3 (by decide) (hts _ kw_158) (fun _ h9 => h9) rfl d_Pa_issue_103 ?_
      refine lv_iload_n hx hb d_Pa_issue_106 rfl (lv_at hl 1 rfl) ?_
      refine vp_callSi (va_runV (As := [.int (nI k)]) (rest := []) ⟨hx, hb, hml, hown, hts⟩ (c_Li_isOut l dC dI li a0 a1 a2 a3 a4 a5 a6 a7 a8 ns cI fc (nI k) (by omega)) (cwV 1 hts (ga_V kw_420 kw_408 kw_409 kw_37 (ga_in kw_410)) rfl rfl rfl (by decide +kernel) ⟨Nat.le_of_ble_eq_true rfl, Nat.le_of_ble_eq_true rfl⟩) (wy_preV 0 (hP.sub (ws' := [(li, .inr (1, [.ref a0, .ref a1, .ref a2, .ref a3, .ref a4, .ref a5, .ref a6, .ref a7, .ref a8, .int (nI ns)])), (a8, .inl (cI, 100, .inl fc))]) [1, 7] rfl) (hK.sub (tys' := [(cI, .int)]) [0] rfl) hN (ci := 1) rfl rfl rfl) rfl rfl hl.1 rfl (lv_room (Nat.le_of_ble_eq_true rfl)) d_Pa_issue_107 ⟨Nat.le_of_ble_eq_true rfl, Nat.le_of_ble_eq_true rfl⟩).run (fun r_107 h_107 => ?_)
      subst h_107
      refine wy_cvi (y := bo_I (decide (fc k = (-1)))) (congrArg bo_I (by rw [li_out_nI (by omega) (by omega), decide_eq_true hk, Bool.true_and])) ?_
      refine wy_ifeqB (tgt := 117) hx hb d_Pa_issue_110 (by decide) (fun c_110 => ?_) (fun c_110 => ?_)
      · refine lv_iconst (v := 1) hx hb d_Pa_issue_117 (by decide) ?_
        have z9 : pa_iss ns ft fn fv f2 fp fc (nI k) y = 1 := by unfold pa_iss; rw [if_pos c_8, nI_clamp (by omega)]; subst c_14; rw [if_neg (by decide)]; rw [if_neg (by decide)]; rw [if_neg (by decide)]; rw [if_neg (by decide)]; rw [if_neg (by decide)]; rw [if_pos rfl]; first | rw [if_pos (of_decide_eq_true c_110)] | rw [if_neg (of_decide_eq_false c_110)]
        have q9 : (1 : Int32) = pa_iss ns ft fn fv f2 fp fc (nI k) y := by rw [z9]
        exact W.iret (v := 1) hx hb hr (fun t ht _ => ⟨_, rfl, q9, ht⟩) (fun _ h9 => by cases h9) d_Pa_issue_118
      · refine lv_iconst (v := 0) hx hb d_Pa_issue_113 (by decide) ?_
        refine lv_goto (tgt := 118) hx hb d_Pa_issue_114 (by decide) ?_
        have z9 : pa_iss ns ft fn fv f2 fp fc (nI k) y = 0 := by unfold pa_iss; rw [if_pos c_8, nI_clamp (by omega)]; subst c_14; rw [if_neg (by decide)]; rw [if_neg (by decide)]; rw [if_neg (by decide)]; rw [if_neg (by decide)]; rw [if_neg (by decide)]; rw [if_pos rfl]; first | rw [if_pos (of_decide_eq_true c_110)] | rw [if_neg (of_decide_eq_false c_110)]
        have q9 : (0 : Int32) = pa_iss ns ft fn fv f2 fp fc (nI k) y := by rw [z9]
        exact W.iret (v := 0) hx hb hr (fun t ht _ => ⟨_, rfl, q9, ht⟩) (fun _ h9 => by cases h9) d_Pa_issue_118
  · refine lv_iconst (v := -1) hx hb d_Pa_issue_11 (by decide) ?_
    have z9 : pa_iss ns ft fn fv f2 fp fc x y = (-1) := by unfold pa_iss; exact if_neg (by rw [c_8]; decide)
    have q9 : ((-1) : Int32) = pa_iss ns ft fn fv f2 fp fc x y := by rw [z9]
    exact W.iret (v := (-1)) hx hb hr (fun t ht _ => ⟨_, rfl, q9, ht⟩) (fun _ h9 => by cases h9) d_Pa_issue_12

set_option maxHeartbeats 4000000 in
set_option maxRecDepth 100000 in
theorem c_Pa_date (l : Launch) (dC : Nat → ClassId) (dI : Nat → Nat → Nat) (xx : Nat) (rd : Nat) (qa : Nat) (ho : Nat) (li : Nat) (cn : Nat) (pr : Value) (a0 : Nat) (a1 : Nat) (a2 : Nat) (a3 : Nat) (a4 : Nat) (a5 : Nat) (a6 : Nat) (a7 : Nat) (a8 : Nat) (ns : Nat) (cI : ClassId) (fe : Nat → Int32) (x : Int32) (hn : ns ≤ 100) : Met l y_Pa_date w_Pa_date ({ frames := 1, cells := 0, slots := 0, locals := 21 }) (va_Pc [.ref xx, .int x] (wy_R (dC, dI) ga_cl [(xx, .inr (4, [.ref rd, .ref qa, .ref ho, .ref li, .int (nI cn), pr])), (li, .inr (1, [.ref a0, .ref a1, .ref a2, .ref a3, .ref a4, .ref a5, .ref a6, .ref a7, .ref a8, .int (nI ns)])), (a1, .inl (cI, 100, .inl fe))] [(cI, .int)])) (vp_Sl (fun r => r = cond (li_has ns x) (fe x.toNatClampNeg).toInt64 (-1))) 0 0 (fun _ => False) := by
  refine Met.ofW (cc := b_Pa_date) (maxL := 2) (ret := (some .long)) (by decide) rfl ?_
  intro p e s m args below meth c s₁ B hml hv
  obtain ⟨rfl, hP, hK, hN⟩ := hv
  have hx := B.exec
  have hb := B.bytes
  have hr := B.returns
  have hts : ∀ w ∈ ga_tbl, w.before _ s = true := fun w h => atoms_spec (ws := w_Pa_date) B.pre w (List.mem_cons_of_mem _ h)
  have hown : s.vm.findClass "PatternText" = some m.cls := findClass_of_methodNamed B.named
  have hlocks := B.notSynchronized
  have hl := lv_entry ([.ref xx, .int x]) (n := 2) (Nat.le_of_ble_eq_true rfl)
  rw [lg_entry_eq]
  generalize (lg_sl ([.ref xx, .int x]) ++ List.replicate (2 - (lg_sl ([.ref xx, .int x])).length) Slot.unset).toArray = ls at hl ⊢
  have hl : lv_has ls 2 [(0, .ref xx), (1, .int x)] := hl
  refine lv_aload_n hx hb d_Pa_date_0 rfl (lv_at hl 0 rfl) ?_
  refine va_get (D := (dC, dI)) (ci := 4) (v := .ref li) (C := "PatternText") (T := F_Pa) (N := 6) hx hb hts iw_Pa hown hK hP 0 rfl rfl 3 (by decide) (hts _ kw_158) (fun _ h9 => h9) rfl d_Pa_date_1 ?_
  refine lv_iload_n hx hb d_Pa_date_4 rfl (lv_at hl 1 rfl) ?_
  refine vp_callSi (va_runV (As := [.int x]) (rest := []) ⟨hx, hb, hml, hown, hts⟩ (c_Li_has l dC dI li a0 a1 a2 a3 a4 a5 a6 a7 a8 ns x ) (cwV 1 hts (ga_V kw_419 kw_412 kw_413 kw_37 (ga_in kw_414)) rfl rfl rfl (by decide +kernel) ⟨Nat.le_of_ble_eq_true rfl, Nat.le_of_ble_eq_true rfl⟩) (wy_preV 0 (hP.sub (ws' := [(li, .inr (1, [.ref a0, .ref a1, .ref a2, .ref a3, .ref a4, .ref a5, .ref a6, .ref a7, .ref a8, .int (nI ns)]))]) [1] rfl) (hK.sub (tys' := []) [] rfl) hN (ci := 1) rfl rfl rfl) rfl rfl hl.1 rfl (lv_room (Nat.le_of_ble_eq_true rfl)) d_Pa_date_5 ⟨Nat.le_of_ble_eq_true rfl, Nat.le_of_ble_eq_true rfl⟩).run (fun r_5 h_5 => ?_)
  subst h_5
  refine wy_ifeqB (tgt := 24) hx hb d_Pa_date_8 (by decide) (fun c_8 => ?_) (fun c_8 => ?_)
  · refine lv_ldc2 (v := (-1)) hx hb hown (hts _ kw_425) d_Pa_date_24 ?_
    have q9 : ((-1) : Int64) = cond (li_has ns x) (fe x.toNatClampNeg).toInt64 (-1) := by rw [c_8]; rfl
    exact W.lret (v := (-1)) hx hb hr (fun t ht _ => ⟨_, rfl, q9, ht⟩) (fun _ h9 => by cases h9) d_Pa_date_27
  · obtain ⟨k, hk, rfl⟩ := li_has_of (by omega) c_8
    refine lv_aload_n hx hb d_Pa_date_11 rfl (lv_at hl 0 rfl) ?_
    refine va_get (D := (dC, dI)) (ci := 4) (v := .ref li) (C := "PatternText") (T := F_Pa) (N := 6) hx hb hts iw_Pa hown hK hP 0 rfl rfl 3 (by decide) (hts _ kw_158) (fun _ h9 => h9) rfl d_Pa_date_12 ?_
    refine va_getN (D := (dC, dI)) (ci := 1) (v := .ref a1) (C := "PatternText$IssueList") (T := F_Li) (N := 10) hx hb hts iw_Li hown hK hP 1 rfl rfl 1 (by decide) (nw_118 hN) (fun _ h9 => h9) rfl d_Pa_date_15 ?_
    refine lv_iload_n hx hb d_Pa_date_18 rfl (lv_at hl 1 rfl) ?_
    refine wy_iald hx hb hK hP 2 0 k rfl rfl (by omega) (by omega) d_Pa_date_19 ?_
    refine lv_i2l (v := (fe k).toInt64) hx hb d_Pa_date_20 rfl ?_
    refine lv_goto (tgt := 27) hx hb d_Pa_date_21 (by decide) ?_
    have q9 : ((fe k).toInt64 : Int64) = cond (li_has ns (nI k)) (fe (nI k).toNatClampNeg).toInt64 (-1) := by rw [li_has_nI (by omega) (by omega), decide_eq_true hk, nI_clamp (by omega)]; rfl
    exact W.lret (v := (fe k).toInt64) hx hb hr (fun t ht _ => ⟨_, rfl, q9, ht⟩) (fun _ h9 => by cases h9) d_Pa_date_27

set_option maxHeartbeats 4000000 in
set_option maxRecDepth 100000 in
theorem c_Pa_irregular (l : Launch) (dC : Nat → ClassId) (dI : Nat → Nat → Nat) (sz : Nat) (xx : Nat) (rd : Nat) (qa : Nat) (ho : Nat) (li : Nat) (cn : Nat) (pr : Value) (a0 : Nat) (a1 : Nat) (a2 : Nat) (a3 : Nat) (a4 : Nat) (a5 : Nat) (a6 : Nat) (a7 : Nat) (a8 : Nat) (ns : Nat) (cI : ClassId) (fe : Nat → Int32) (fc : Nat → Int32) (x : Int32) (y : Int32) (hn : ns ≤ 100) : Met l y_Pa_irregular w_Pa_irregular ({ frames := 2, cells := 0, slots := 0, locals := 42 }) (va_Pc [.ref xx, .int x, .int y] (wy_M (dC, dI) ga_cl [(xx, .inr (4, [.ref rd, .ref qa, .ref ho, .ref li, .int (nI cn), pr])), (li, .inr (1, [.ref a0, .ref a1, .ref a2, .ref a3, .ref a4, .ref a5, .ref a6, .ref a7, .ref a8, .int (nI ns)])), (a1, .inl (cI, 100, .inl fe)), (a8, .inl (cI, 100, .inl fc))] [(cI, .int)] sz)) (va_Qi (fun (r : Int32) (_ : Unit) => r = bo_I (li_out ns fc x && mo_day y)) (fun _ => wy_N (dC, dI) ga_cl [(cI, .int)] (va_A [(xx, .inr (4, [.ref rd, .ref qa, .ref ho, .ref li, .int (nI cn), pr])), (li, .inr (1, [.ref a0, .ref a1, .ref a2, .ref a3, .ref a4, .ref a5, .ref a6, .ref a7, .ref a8, .int (nI ns)])), (a1, .inl (cI, 100, .inl fe)), (a8, .inl (cI, 100, .inl fc))] sz) [(xx, .inr (4, [.ref rd, .ref qa, .ref ho, .ref li, .int (nI cn), pr])), (li, .inr (1, [.ref a0, .ref a1, .ref a2, .ref a3, .ref a4, .ref a5, .ref a6, .ref a7, .ref a8, .int (nI ns)])), (a1, .inl (cI, 100, .inl (cond (li_out ns fc x && mo_day y) (upd fe x.toNatClampNeg y) fe))), (a8, .inl (cI, 100, .inl fc))]) (va_A [(xx, .inr (4, [.ref rd, .ref qa, .ref ho, .ref li, .int (nI cn), pr])), (li, .inr (1, [.ref a0, .ref a1, .ref a2, .ref a3, .ref a4, .ref a5, .ref a6, .ref a7, .ref a8, .int (nI ns)])), (a1, .inl (cI, 100, .inl fe)), (a8, .inl (cI, 100, .inl fc))] sz)) 0 0 (va_A [(xx, .inr (4, [.ref rd, .ref qa, .ref ho, .ref li, .int (nI cn), pr])), (li, .inr (1, [.ref a0, .ref a1, .ref a2, .ref a3, .ref a4, .ref a5, .ref a6, .ref a7, .ref a8, .int (nI ns)])), (a1, .inl (cI, 100, .inl fe)), (a8, .inl (cI, 100, .inl fc))] sz) := by
  refine Met.ofW (cc := b_Pa_irregular) (maxL := 3) (ret := (some .int)) (by decide) rfl ?_
  intro p e s m args below meth c s₁ B hml hv
  obtain ⟨rfl, hsz, hP, hK, hN, hD0⟩ := hv
  have hx := B.exec
  have hb := B.bytes
  have hr := B.returns
  have hts : ∀ w ∈ ga_tbl, w.before _ s = true := fun w h => atoms_spec (ws := w_Pa_irregular) B.pre w (List.mem_cons_of_mem _ h)
  have hown : s.vm.findClass "PatternText" = some m.cls := findClass_of_methodNamed B.named
  have hlocks := B.notSynchronized
  subst hsz
  have hD := hD0.self (sz := s.heap.size)
  generalize hAe : va_A [(xx, .inr (4, [.ref rd, .ref qa, .ref ho, .ref li, .int (nI cn), pr])), (li, .inr (1, [.ref a0, .ref a1, .ref a2, .ref a3, .ref a4, .ref a5, .ref a6, .ref a7, .ref a8, .int (nI ns)])), (a1, .inl (cI, 100, .inl fe)), (a8, .inl (cI, 100, .inl fc))] s.heap.size = A at hD ⊢
  have hA : ∀ q : Nat, s.heap.size ≤ q → A q := fun q h => by rw [← hAe]; exact Or.inr h
  have hS : va_S A s.heap s.heap [] := va_S.rf
  have hl := lv_entry ([.ref xx, .int x, .int y]) (n := 3) (Nat.le_of_ble_eq_true rfl)
  rw [lg_entry_eq]
  generalize (lg_sl ([.ref xx, .int x, .int y]) ++ List.replicate (3 - (lg_sl ([.ref xx, .int x, .int y])).length) Slot.unset).toArray = ls at hl ⊢
  have hl : lv_has ls 3 [(0, .ref xx), (1, .int x), (2, .int y)] := hl
  obtain ⟨Q0, hQ⟩ : ∃ Q0 : State → Prop, Q0 = MQ below (va_Qi (fun (r : Int32) (_ : Unit) => r = bo_I (li_out ns fc x && mo_day y)) (fun _ => wy_N (dC, dI) ga_cl [(cI, .int)] A [(xx, .inr (4, [.ref rd, .ref qa, .ref ho, .ref li, .int (nI cn), pr])), (li, .inr (1, [.ref a0, .ref a1, .ref a2, .ref a3, .ref a4, .ref a5, .ref a6, .ref a7, .ref a8, .int (nI ns)])), (a1, .inl (cI, 100, .inl (cond (li_out ns fc x && mo_day y) (upd fe x.toNatClampNeg y) fe))), (a8, .inl (cI, 100, .inl fc))]) A) ([.ref xx, .int x, .int y] : List Value).toArray s 0 0 A := ⟨_, rfl⟩
  show W p l e ({ frames := 2, cells := 0, slots := 0, locals := 42 }) s m ([.ref xx, .int x, .int y] : List Value).toArray below meth c s.heap [] 0 0 (MQ below (va_Qi (fun (r : Int32) (_ : Unit) => r = bo_I (li_out ns fc x && mo_day y)) (fun _ => wy_N (dC, dI) ga_cl [(cI, .int)] A [(xx, .inr (4, [.ref rd, .ref qa, .ref ho, .ref li, .int (nI cn), pr])), (li, .inr (1, [.ref a0, .ref a1, .ref a2, .ref a3, .ref a4, .ref a5, .ref a6, .ref a7, .ref a8, .int (nI ns)])), (a1, .inl (cI, 100, .inl (cond (li_out ns fc x && mo_day y) (upd fe x.toNatClampNeg y) fe))), (a8, .inl (cI, 100, .inl fc))]) A) ([.ref xx, .int x, .int y] : List Value).toArray s 0 0 A) (F0 m 0 ls [])
  rw [← hQ]
  refine lv_aload_n hx hb d_Pa_irregular_0 rfl (lv_at hl 0 rfl) ?_
  refine va_get (D := (dC, dI)) (ci := 4) (v := .ref li) (C := "PatternText") (T := F_Pa) (N := 6) hx hb hts iw_Pa hown hK hP 0 rfl rfl 3 (by decide) (hts _ kw_158) (fun _ h9 => h9) rfl d_Pa_irregular_1 ?_
  refine lv_iload_n hx hb d_Pa_irregular_4 rfl (lv_at hl 1 rfl) ?_
  refine vp_callSi (va_runV (As := [.int x]) (rest := []) ⟨hx, hb, hml, hown, hts⟩ (c_Li_isOut l dC dI li a0 a1 a2 a3 a4 a5 a6 a7 a8 ns cI fc x (by omega)) (cwV 1 hts (ga_V kw_420 kw_408 kw_409 kw_37 (ga_in kw_410)) rfl rfl rfl (by decide +kernel) ⟨Nat.le_of_ble_eq_true rfl, Nat.le_of_ble_eq_true rfl⟩) (wy_preV 0 (hP.sub (ws' := [(li, .inr (1, [.ref a0, .ref a1, .ref a2, .ref a3, .ref a4, .ref a5, .ref a6, .ref a7, .ref a8, .int (nI ns)])), (a8, .inl (cI, 100, .inl fc))]) [1, 3] rfl) (hK.sub (tys' := [(cI, .int)]) [0] rfl) hN (ci := 1) rfl rfl rfl) rfl rfl hl.1 rfl (lv_room (Nat.le_of_ble_eq_true rfl)) d_Pa_irregular_5 ⟨Nat.le_of_ble_eq_true rfl, Nat.le_of_ble_eq_true rfl⟩).run (fun r_5 h_5 => ?_)
  subst h_5
  refine wy_ifeqB (tgt := 18) hx hb d_Pa_irregular_8 (by decide) (fun c_8 => ?_) (fun c_8 => ?_)
  · refine lv_iconst (v := 0) hx hb d_Pa_irregular_18 (by decide) ?_
    rw [hQ]
    have z9 : (li_out ns fc x && mo_day y) = false := by rw [c_8]; rfl
    have q9 : (0 : Int32) = bo_I (li_out ns fc x && mo_day y) := by rw [z9]; rfl
    have e9 : ([(xx, .inr (4, [.ref rd, .ref qa, .ref ho, .ref li, .int (nI cn), pr])), (li, .inr (1, [.ref a0, .ref a1, .ref a2, .ref a3, .ref a4, .ref a5, .ref a6, .ref a7, .ref a8, .int (nI ns)])), (a1, .inl (cI, 100, .inl (cond (li_out ns fc x && mo_day y) (upd fe x.toNatClampNeg y) fe))), (a8, .inl (cI, 100, .inl fc))] : va_W) = [(xx, .inr (4, [.ref rd, .ref qa, .ref ho, .ref li, .int (nI cn), pr])), (li, .inr (1, [.ref a0, .ref a1, .ref a2, .ref a3, .ref a4, .ref a5, .ref a6, .ref a7, .ref a8, .int (nI ns)])), (a1, .inl (cI, 100, .inl fe)), (a8, .inl (cI, 100, .inl fc))] := by rw [z9] <;> first | rfl | (rw [nI_clamp (by omega)]; rfl)
    exact W.iret (v := 0) hx hb hr (fun t ht hW => ⟨⟨_, (), rfl, q9, by rw [ht, e9]; exact hP, va_K.moved hW.alike hK, by rw [e9]; exact hD⟩, hS.F ht⟩) hS.2.2 d_Pa_irregular_19
  · have hh : li_has ns x = true := by simp only [li_out, Bool.and_eq_true] at c_8; exact c_8.1
    obtain ⟨k, hk, rfl⟩ := li_has_of (by omega) hh
    refine lv_iload_n hx hb d_Pa_irregular_11 rfl (lv_at hl 2 rfl) ?_
    refine vp_callSi (va_runS (As := [.int y]) (rest := []) ⟨hx, hb, hml, hown, hts⟩ (c_Pa_isDay l dC dI y ) (cwS 1 hts (ga_S kw_350 kw_351 kw_34 (ga_in kw_352)) rfl rfl rfl (by decide +kernel) ⟨Nat.le_of_ble_eq_true rfl, Nat.le_of_ble_eq_true rfl⟩) (wy_preS (hP.sub (ws' := []) [] rfl) (hK.sub (tys' := []) [] rfl) hN) rfl rfl hl.1 rfl (lv_room (Nat.le_of_ble_eq_true rfl)) d_Pa_irregular_12 ⟨Nat.le_of_ble_eq_true rfl, Nat.le_of_ble_eq_true rfl⟩).run (fun r_12 h_12 => ?_)
    subst h_12
    refine wy_ifneB (tgt := 20) hx hb d_Pa_irregular_15 (by decide) (fun c_15 => ?_) (fun c_15 => ?_)
    · refine lv_aload_n hx hb d_Pa_irregular_20 rfl (lv_at hl 0 rfl) ?_
      refine va_get (D := (dC, dI)) (ci := 4) (v := .ref li) (C := "PatternText") (T := F_Pa) (N := 6) hx hb hts iw_Pa hown hK hP 0 rfl rfl 3 (by decide) (hts _ kw_158) (fun _ h9 => h9) rfl d_Pa_irregular_21 ?_
      refine va_getN (D := (dC, dI)) (ci := 1) (v := .ref a1) (C := "PatternText$IssueList") (T := F_Li) (N := 10) hx hb hts iw_Li hown hK hP 1 rfl rfl 1 (by decide) (nw_118 hN) (fun _ h9 => h9) rfl d_Pa_irregular_24 ?_
      refine lv_iload_n hx hb d_Pa_irregular_27 rfl (lv_at hl 1 rfl) ?_
      refine lv_iload_n hx hb d_Pa_irregular_28 rfl (lv_at hl 2 rfl) ?_
      refine wy_iast hx hb hK hP hD hS 2 0 k rfl rfl (by omega) (by omega) d_Pa_irregular_29 (fun H locs hP hD hS => ?_)
      have hP : va_P (dC, dI) ga_cl [(xx, .inr (4, [.ref rd, .ref qa, .ref ho, .ref li, .int (nI cn), pr])), (li, .inr (1, [.ref a0, .ref a1, .ref a2, .ref a3, .ref a4, .ref a5, .ref a6, .ref a7, .ref a8, .int (nI ns)])), (a1, .inl (cI, 100, .inl (upd fe k y))), (a8, .inl (cI, 100, .inl fc))] H := hP
      have hD : va_D A [(xx, .inr (4, [.ref rd, .ref qa, .ref ho, .ref li, .int (nI cn), pr])), (li, .inr (1, [.ref a0, .ref a1, .ref a2, .ref a3, .ref a4, .ref a5, .ref a6, .ref a7, .ref a8, .int (nI ns)])), (a1, .inl (cI, 100, .inl (upd fe k y))), (a8, .inl (cI, 100, .inl fc))] := hD
      refine lv_iconst (v := 1) hx hb d_Pa_irregular_30 (by decide) ?_
      rw [hQ]
      have z9 : (li_out ns fc (nI k) && mo_day y) = true := by rw [c_8, c_15]; rfl
      have q9 : (1 : Int32) = bo_I (li_out ns fc (nI k) && mo_day y) := by rw [z9]; rfl
      have e9 : ([(xx, .inr (4, [.ref rd, .ref qa, .ref ho, .ref li, .int (nI cn), pr])), (li, .inr (1, [.ref a0, .ref a1, .ref a2, .ref a3, .ref a4, .ref a5, .ref a6, .ref a7, .ref a8, .int (nI ns)])), (a1, .inl (cI, 100, .inl (cond (li_out ns fc (nI k) && mo_day y) (upd fe (nI k).toNatClampNeg y) fe))), (a8, .inl (cI, 100, .inl fc))] : va_W) = [(xx, .inr (4, [.ref rd, .ref qa, .ref ho, .ref li, .int (nI cn), pr])), (li, .inr (1, [.ref a0, .ref a1, .ref a2, .ref a3, .ref a4, .ref a5, .ref a6, .ref a7, .ref a8, .int (nI ns)])), (a1, .inl (cI, 100, .inl (upd fe k y))), (a8, .inl (cI, 100, .inl fc))] := by rw [z9] <;> first | rfl | (rw [nI_clamp (by omega)]; rfl)
      exact W.iret (v := 1) hx hb hr (fun t ht hW => ⟨⟨_, (), rfl, q9, by rw [ht, e9]; exact hP, va_K.moved hW.alike hK, by rw [e9]; exact hD⟩, hS.F ht⟩) hS.2.2 d_Pa_irregular_31
    · refine lv_iconst (v := 0) hx hb d_Pa_irregular_18 (by decide) ?_
      rw [hQ]
      have z9 : (li_out ns fc (nI k) && mo_day y) = false := by rw [c_8, c_15]; rfl
      have q9 : (0 : Int32) = bo_I (li_out ns fc (nI k) && mo_day y) := by rw [z9]; rfl
      have e9 : ([(xx, .inr (4, [.ref rd, .ref qa, .ref ho, .ref li, .int (nI cn), pr])), (li, .inr (1, [.ref a0, .ref a1, .ref a2, .ref a3, .ref a4, .ref a5, .ref a6, .ref a7, .ref a8, .int (nI ns)])), (a1, .inl (cI, 100, .inl (cond (li_out ns fc (nI k) && mo_day y) (upd fe (nI k).toNatClampNeg y) fe))), (a8, .inl (cI, 100, .inl fc))] : va_W) = [(xx, .inr (4, [.ref rd, .ref qa, .ref ho, .ref li, .int (nI cn), pr])), (li, .inr (1, [.ref a0, .ref a1, .ref a2, .ref a3, .ref a4, .ref a5, .ref a6, .ref a7, .ref a8, .int (nI ns)])), (a1, .inl (cI, 100, .inl fe)), (a8, .inl (cI, 100, .inl fc))] := by rw [z9] <;> first | rfl | (rw [nI_clamp (by omega)]; rfl)
      exact W.iret (v := 0) hx hb hr (fun t ht hW => ⟨⟨_, (), rfl, q9, by rw [ht, e9]; exact hP, va_K.moved hW.alike hK, by rw [e9]; exact hD⟩, hS.F ht⟩) hS.2.2 d_Pa_irregular_19

set_option maxHeartbeats 4000000 in
set_option maxRecDepth 100000 in
theorem c_Pa_came (l : Launch) (dC : Nat → ClassId) (dI : Nat → Nat → Nat) (sz : Nat) (xx : Nat) (rd : Nat) (qa : Nat) (ho : Nat) (li : Nat) (cn : Nat) (pr : Value) (a0 : Nat) (a1 : Nat) (a2 : Nat) (a3 : Nat) (a4 : Nat) (a5 : Nat) (a6 : Nat) (a7 : Nat) (a8 : Nat) (ns : Nat) (cI : ClassId) (fe : Nat → Int32) (fc : Nat → Int32) (x : Int32) (y : Int32) (hn : ns ≤ 100) : Met l y_Pa_came w_Pa_came ({ frames := 2, cells := 0, slots := 0, locals := 42 }) (va_Pc [.ref xx, .int x, .int y] (wy_M (dC, dI) ga_cl [(xx, .inr (4, [.ref rd, .ref qa, .ref ho, .ref li, .int (nI cn), pr])), (li, .inr (1, [.ref a0, .ref a1, .ref a2, .ref a3, .ref a4, .ref a5, .ref a6, .ref a7, .ref a8, .int (nI ns)])), (a1, .inl (cI, 100, .inl fe)), (a8, .inl (cI, 100, .inl fc))] [(cI, .int)] sz)) (va_Qi (fun (r : Int32) (_ : Unit) => r = bo_I (li_out ns fc x && mo_day y)) (fun _ => wy_N (dC, dI) ga_cl [(cI, .int)] (va_A [(xx, .inr (4, [.ref rd, .ref qa, .ref ho, .ref li, .int (nI cn), pr])), (li, .inr (1, [.ref a0, .ref a1, .ref a2, .ref a3, .ref a4, .ref a5, .ref a6, .ref a7, .ref a8, .int (nI ns)])), (a1, .inl (cI, 100, .inl fe)), (a8, .inl (cI, 100, .inl fc))] sz) [(xx, .inr (4, [.ref rd, .ref qa, .ref ho, .ref li, .int (nI cn), pr])), (li, .inr (1, [.ref a0, .ref a1, .ref a2, .ref a3, .ref a4, .ref a5, .ref a6, .ref a7, .ref a8, .int (nI ns)])), (a1, .inl (cI, 100, .inl fe)), (a8, .inl (cI, 100, .inl (cond (li_out ns fc x && mo_day y) (upd fc x.toNatClampNeg y) fc)))]) (va_A [(xx, .inr (4, [.ref rd, .ref qa, .ref ho, .ref li, .int (nI cn), pr])), (li, .inr (1, [.ref a0, .ref a1, .ref a2, .ref a3, .ref a4, .ref a5, .ref a6, .ref a7, .ref a8, .int (nI ns)])), (a1, .inl (cI, 100, .inl fe)), (a8, .inl (cI, 100, .inl fc))] sz)) 0 0 (va_A [(xx, .inr (4, [.ref rd, .ref qa, .ref ho, .ref li, .int (nI cn), pr])), (li, .inr (1, [.ref a0, .ref a1, .ref a2, .ref a3, .ref a4, .ref a5, .ref a6, .ref a7, .ref a8, .int (nI ns)])), (a1, .inl (cI, 100, .inl fe)), (a8, .inl (cI, 100, .inl fc))] sz) := by
  refine Met.ofW (cc := b_Pa_came) (maxL := 3) (ret := (some .int)) (by decide) rfl ?_
  intro p e s m args below meth c s₁ B hml hv
  obtain ⟨rfl, hsz, hP, hK, hN, hD0⟩ := hv
  have hx := B.exec
  have hb := B.bytes
  have hr := B.returns
  have hts : ∀ w ∈ ga_tbl, w.before _ s = true := fun w h => atoms_spec (ws := w_Pa_came) B.pre w (List.mem_cons_of_mem _ h)
  have hown : s.vm.findClass "PatternText" = some m.cls := findClass_of_methodNamed B.named
  have hlocks := B.notSynchronized
  subst hsz
  have hD := hD0.self (sz := s.heap.size)
  generalize hAe : va_A [(xx, .inr (4, [.ref rd, .ref qa, .ref ho, .ref li, .int (nI cn), pr])), (li, .inr (1, [.ref a0, .ref a1, .ref a2, .ref a3, .ref a4, .ref a5, .ref a6, .ref a7, .ref a8, .int (nI ns)])), (a1, .inl (cI, 100, .inl fe)), (a8, .inl (cI, 100, .inl fc))] s.heap.size = A at hD ⊢
  have hA : ∀ q : Nat, s.heap.size ≤ q → A q := fun q h => by rw [← hAe]; exact Or.inr h
  have hS : va_S A s.heap s.heap [] := va_S.rf
  have hl := lv_entry ([.ref xx, .int x, .int y]) (n := 3) (Nat.le_of_ble_eq_true rfl)
  rw [lg_entry_eq]
  generalize (lg_sl ([.ref xx, .int x, .int y]) ++ List.replicate (3 - (lg_sl ([.ref xx, .int x, .int y])).length) Slot.unset).toArray = ls at hl ⊢
  have hl : lv_has ls 3 [(0, .ref xx), (1, .int x), (2, .int y)] := hl
  obtain ⟨Q0, hQ⟩ : ∃ Q0 : State → Prop, Q0 = MQ below (va_Qi (fun (r : Int32) (_ : Unit) => r = bo_I (li_out ns fc x && mo_day y)) (fun _ => wy_N (dC, dI) ga_cl [(cI, .int)] A [(xx, .inr (4, [.ref rd, .ref qa, .ref ho, .ref li, .int (nI cn), pr])), (li, .inr (1, [.ref a0, .ref a1, .ref a2, .ref a3, .ref a4, .ref a5, .ref a6, .ref a7, .ref a8, .int (nI ns)])), (a1, .inl (cI, 100, .inl fe)), (a8, .inl (cI, 100, .inl (cond (li_out ns fc x && mo_day y) (upd fc x.toNatClampNeg y) fc)))]) A) ([.ref xx, .int x, .int y] : List Value).toArray s 0 0 A := ⟨_, rfl⟩
  show W p l e ({ frames := 2, cells := 0, slots := 0, locals := 42 }) s m ([.ref xx, .int x, .int y] : List Value).toArray below meth c s.heap [] 0 0 (MQ below (va_Qi (fun (r : Int32) (_ : Unit) => r = bo_I (li_out ns fc x && mo_day y)) (fun _ => wy_N (dC, dI) ga_cl [(cI, .int)] A [(xx, .inr (4, [.ref rd, .ref qa, .ref ho, .ref li, .int (nI cn), pr])), (li, .inr (1, [.ref a0, .ref a1, .ref a2, .ref a3, .ref a4, .ref a5, .ref a6, .ref a7, .ref a8, .int (nI ns)])), (a1, .inl (cI, 100, .inl fe)), (a8, .inl (cI, 100, .inl (cond (li_out ns fc x && mo_day y) (upd fc x.toNatClampNeg y) fc)))]) A) ([.ref xx, .int x, .int y] : List Value).toArray s 0 0 A) (F0 m 0 ls [])
  rw [← hQ]
  refine lv_aload_n hx hb d_Pa_came_0 rfl (lv_at hl 0 rfl) ?_
  refine va_get (D := (dC, dI)) (ci := 4) (v := .ref li) (C := "PatternText") (T := F_Pa) (N := 6) hx hb hts iw_Pa hown hK hP 0 rfl rfl 3 (by decide) (hts _ kw_158) (fun _ h9 => h9) rfl d_Pa_came_1 ?_
  refine lv_iload_n hx hb d_Pa_came_4 rfl (lv_at hl 1 rfl) ?_
  refine vp_callSi (va_runV (As := [.int x]) (rest := []) ⟨hx, hb, hml, hown, hts⟩ (c_Li_isOut l dC dI li a0 a1 a2 a3 a4 a5 a6 a7 a8 ns cI fc x (by omega)) (cwV 1 hts (ga_V kw_420 kw_408 kw_409 kw_37 (ga_in kw_410)) rfl rfl rfl (by decide +kernel) ⟨Nat.le_of_ble_eq_true rfl, Nat.le_of_ble_eq_true rfl⟩) (wy_preV 0 (hP.sub (ws' := [(li, .inr (1, [.ref a0, .ref a1, .ref a2, .ref a3, .ref a4, .ref a5, .ref a6, .ref a7, .ref a8, .int (nI ns)])), (a8, .inl (cI, 100, .inl fc))]) [1, 3] rfl) (hK.sub (tys' := [(cI, .int)]) [0] rfl) hN (ci := 1) rfl rfl rfl) rfl rfl hl.1 rfl (lv_room (Nat.le_of_ble_eq_true rfl)) d_Pa_came_5 ⟨Nat.le_of_ble_eq_true rfl, Nat.le_of_ble_eq_true rfl⟩).run (fun r_5 h_5 => ?_)
  subst h_5
  refine wy_ifeqB (tgt := 18) hx hb d_Pa_came_8 (by decide) (fun c_8 => ?_) (fun c_8 => ?_)
  · refine lv_iconst (v := 0) hx hb d_Pa_came_18 (by decide) ?_
    rw [hQ]
    have z9 : (li_out ns fc x && mo_day y) = false := by rw [c_8]; rfl
    have q9 : (0 : Int32) = bo_I (li_out ns fc x && mo_day y) := by rw [z9]; rfl
    have e9 : ([(xx, .inr (4, [.ref rd, .ref qa, .ref ho, .ref li, .int (nI cn), pr])), (li, .inr (1, [.ref a0, .ref a1, .ref a2, .ref a3, .ref a4, .ref a5, .ref a6, .ref a7, .ref a8, .int (nI ns)])), (a1, .inl (cI, 100, .inl fe)), (a8, .inl (cI, 100, .inl (cond (li_out ns fc x && mo_day y) (upd fc x.toNatClampNeg y) fc)))] : va_W) = [(xx, .inr (4, [.ref rd, .ref qa, .ref ho, .ref li, .int (nI cn), pr])), (li, .inr (1, [.ref a0, .ref a1, .ref a2, .ref a3, .ref a4, .ref a5, .ref a6, .ref a7, .ref a8, .int (nI ns)])), (a1, .inl (cI, 100, .inl fe)), (a8, .inl (cI, 100, .inl fc))] := by rw [z9] <;> first | rfl | (rw [nI_clamp (by omega)]; rfl)
    exact W.iret (v := 0) hx hb hr (fun t ht hW => ⟨⟨_, (), rfl, q9, by rw [ht, e9]; exact hP, va_K.moved hW.alike hK, by rw [e9]; exact hD⟩, hS.F ht⟩) hS.2.2 d_Pa_came_19
  · have hh : li_has ns x = true := by simp only [li_out, Bool.and_eq_true] at c_8; exact c_8.1
    obtain ⟨k, hk, rfl⟩ := li_has_of (by omega) hh
    refine lv_iload_n hx hb d_Pa_came_11 rfl (lv_at hl 2 rfl) ?_
    refine vp_callSi (va_runS (As := [.int y]) (rest := []) ⟨hx, hb, hml, hown, hts⟩ (c_Pa_isDay l dC dI y ) (cwS 1 hts (ga_S kw_350 kw_351 kw_34 (ga_in kw_352)) rfl rfl rfl (by decide +kernel) ⟨Nat.le_of_ble_eq_true rfl, Nat.le_of_ble_eq_true rfl⟩) (wy_preS (hP.sub (ws' := []) [] rfl) (hK.sub (tys' := []) [] rfl) hN) rfl rfl hl.1 rfl (lv_room (Nat.le_of_ble_eq_true rfl)) d_Pa_came_12 ⟨Nat.le_of_ble_eq_true rfl, Nat.le_of_ble_eq_true rfl⟩).run (fun r_12 h_12 => ?_)
    subst h_12
    refine wy_ifneB (tgt := 20) hx hb d_Pa_came_15 (by decide) (fun c_15 => ?_) (fun c_15 => ?_)
    · refine lv_aload_n hx hb d_Pa_came_20 rfl (lv_at hl 0 rfl) ?_
      refine va_get (D := (dC, dI)) (ci := 4) (v := .ref li) (C := "PatternText") (T := F_Pa) (N := 6) hx hb hts iw_Pa hown hK hP 0 rfl rfl 3 (by decide) (hts _ kw_158) (fun _ h9 => h9) rfl d_Pa_came_21 ?_
      refine va_getN (D := (dC, dI)) (ci := 1) (v := .ref a8) (C := "PatternText$IssueList") (T := F_Li) (N := 10) hx hb hts iw_Li hown hK hP 1 rfl rfl 8 (by decide) (nw_131 hN) (fun _ h9 => h9) rfl d_Pa_came_24 ?_
      refine lv_iload_n hx hb d_Pa_came_27 rfl (lv_at hl 1 rfl) ?_
      refine lv_iload_n hx hb d_Pa_came_28 rfl (lv_at hl 2 rfl) ?_
      refine wy_iast hx hb hK hP hD hS 3 0 k rfl rfl (by omega) (by omega) d_Pa_came_29 (fun H locs hP hD hS => ?_)
      have hP : va_P (dC, dI) ga_cl [(xx, .inr (4, [.ref rd, .ref qa, .ref ho, .ref li, .int (nI cn), pr])), (li, .inr (1, [.ref a0, .ref a1, .ref a2, .ref a3, .ref a4, .ref a5, .ref a6, .ref a7, .ref a8, .int (nI ns)])), (a1, .inl (cI, 100, .inl fe)), (a8, .inl (cI, 100, .inl (upd fc k y)))] H := hP
      have hD : va_D A [(xx, .inr (4, [.ref rd, .ref qa, .ref ho, .ref li, .int (nI cn), pr])), (li, .inr (1, [.ref a0, .ref a1, .ref a2, .ref a3, .ref a4, .ref a5, .ref a6, .ref a7, .ref a8, .int (nI ns)])), (a1, .inl (cI, 100, .inl fe)), (a8, .inl (cI, 100, .inl (upd fc k y)))] := hD
      refine lv_iconst (v := 1) hx hb d_Pa_came_30 (by decide) ?_
      rw [hQ]
      have z9 : (li_out ns fc (nI k) && mo_day y) = true := by rw [c_8, c_15]; rfl
      have q9 : (1 : Int32) = bo_I (li_out ns fc (nI k) && mo_day y) := by rw [z9]; rfl
      have e9 : ([(xx, .inr (4, [.ref rd, .ref qa, .ref ho, .ref li, .int (nI cn), pr])), (li, .inr (1, [.ref a0, .ref a1, .ref a2, .ref a3, .ref a4, .ref a5, .ref a6, .ref a7, .ref a8, .int (nI ns)])), (a1, .inl (cI, 100, .inl fe)), (a8, .inl (cI, 100, .inl (cond (li_out ns fc (nI k) && mo_day y) (upd fc (nI k).toNatClampNeg y) fc)))] : va_W) = [(xx, .inr (4, [.ref rd, .ref qa, .ref ho, .ref li, .int (nI cn), pr])), (li, .inr (1, [.ref a0, .ref a1, .ref a2, .ref a3, .ref a4, .ref a5, .ref a6, .ref a7, .ref a8, .int (nI ns)])), (a1, .inl (cI, 100, .inl fe)), (a8, .inl (cI, 100, .inl (upd fc k y)))] := by rw [z9] <;> first | rfl | (rw [nI_clamp (by omega)]; rfl)
      exact W.iret (v := 1) hx hb hr (fun t ht hW => ⟨⟨_, (), rfl, q9, by rw [ht, e9]; exact hP, va_K.moved hW.alike hK, by rw [e9]; exact hD⟩, hS.F ht⟩) hS.2.2 d_Pa_came_31
    · refine lv_iconst (v := 0) hx hb d_Pa_came_18 (by decide) ?_
      rw [hQ]
      have z9 : (li_out ns fc (nI k) && mo_day y) = false := by rw [c_8, c_15]; rfl
      have q9 : (0 : Int32) = bo_I (li_out ns fc (nI k) && mo_day y) := by rw [z9]; rfl
      have e9 : ([(xx, .inr (4, [.ref rd, .ref qa, .ref ho, .ref li, .int (nI cn), pr])), (li, .inr (1, [.ref a0, .ref a1, .ref a2, .ref a3, .ref a4, .ref a5, .ref a6, .ref a7, .ref a8, .int (nI ns)])), (a1, .inl (cI, 100, .inl fe)), (a8, .inl (cI, 100, .inl (cond (li_out ns fc (nI k) && mo_day y) (upd fc (nI k).toNatClampNeg y) fc)))] : va_W) = [(xx, .inr (4, [.ref rd, .ref qa, .ref ho, .ref li, .int (nI cn), pr])), (li, .inr (1, [.ref a0, .ref a1, .ref a2, .ref a3, .ref a4, .ref a5, .ref a6, .ref a7, .ref a8, .int (nI ns)])), (a1, .inl (cI, 100, .inl fe)), (a8, .inl (cI, 100, .inl fc))] := by rw [z9] <;> first | rfl | (rw [nI_clamp (by omega)]; rfl)
      exact W.iret (v := 0) hx hb hr (fun t ht hW => ⟨⟨_, (), rfl, q9, by rw [ht, e9]; exact hP, va_K.moved hW.alike hK, by rw [e9]; exact hD⟩, hS.F ht⟩) hS.2.2 d_Pa_came_19

set_option maxHeartbeats 4000000 in
set_option maxRecDepth 100000 in
theorem c_Pa_holiday (l : Launch) (dC : Nat → ClassId) (dI : Nat → Nat → Nat) (sz : Nat) (xx : Nat) (rd : Nat) (qa : Nat) (ho : Nat) (li : Nat) (cn : Nat) (pr : Value) (ha : Nat) (cI : ClassId) (hd : Nat → Int32) (hc : Nat) (x : Int32) (hh : hc ≤ 60) : Met l y_Pa_holiday w_Pa_holiday ({ frames := 2, cells := 0, slots := 0, locals := 45 }) (va_Pc [.ref xx, .int x] (wy_M (dC, dI) ga_cl [(xx, .inr (4, [.ref rd, .ref qa, .ref ho, .ref li, .int (nI cn), pr])), (ho, .inr (0, [.ref ha, .int (nI hc)])), (ha, .inl (cI, 60, .inl hd))] [(cI, .int)] sz)) (va_Qi (fun (r : Int32) (_ : Unit) => r = cond (mo_day x && decide (hc < 60 ∧ ho_nx hd hc 0 x.toNatClampNeg = x.toNatClampNeg)) (nI (hc + 1)) 0) (fun _ => wy_N (dC, dI) ga_cl [(cI, .int)] (va_A [(xx, .inr (4, [.ref rd, .ref qa, .ref ho, .ref li, .int (nI cn), pr])), (ho, .inr (0, [.ref ha, .int (nI hc)])), (ha, .inl (cI, 60, .inl hd))] sz) [(xx, .inr (4, [.ref rd, .ref qa, .ref ho, .ref li, .int (nI cn), pr])), (ho, .inr (0, [.ref ha, .int (nI (cond (mo_day x && decide (hc < 60 ∧ ho_nx hd hc 0 x.toNatClampNeg = x.toNatClampNeg)) (hc + 1) hc))])), (ha, .inl (cI, 60, .inl (cond (mo_day x && decide (hc < 60 ∧ ho_nx hd hc 0 x.toNatClampNeg = x.toNatClampNeg)) (upd (ho_ins x hc hd).2 (ho_ins x hc hd).1 x) hd)))]) (va_A [(xx, .inr (4, [.ref rd, .ref qa, .ref ho, .ref li, .int (nI cn), pr])), (ho, .inr (0, [.ref ha, .int (nI hc)])), (ha, .inl (cI, 60, .inl hd))] sz)) 0 0 (va_A [(xx, .inr (4, [.ref rd, .ref qa, .ref ho, .ref li, .int (nI cn), pr])), (ho, .inr (0, [.ref ha, .int (nI hc)])), (ha, .inl (cI, 60, .inl hd))] sz) := by
  refine Met.ofW (cc := b_Pa_holiday) (maxL := 2) (ret := (some .int)) (by decide) rfl ?_
  intro p e s m args below meth c s₁ B hml hv
  obtain ⟨rfl, hsz, hP, hK, hN, hD0⟩ := hv
  have hx := B.exec
  have hb := B.bytes
  have hr := B.returns
  have hts : ∀ w ∈ ga_tbl, w.before _ s = true := fun w h => atoms_spec (ws := w_Pa_holiday) B.pre w (List.mem_cons_of_mem _ h)
  have hown : s.vm.findClass "PatternText" = some m.cls := findClass_of_methodNamed B.named
  have hlocks := B.notSynchronized
  subst hsz
  have hD := hD0.self (sz := s.heap.size)
  generalize hAe : va_A [(xx, .inr (4, [.ref rd, .ref qa, .ref ho, .ref li, .int (nI cn), pr])), (ho, .inr (0, [.ref ha, .int (nI hc)])), (ha, .inl (cI, 60, .inl hd))] s.heap.size = A at hD ⊢
  have hA : ∀ q : Nat, s.heap.size ≤ q → A q := fun q h => by rw [← hAe]; exact Or.inr h
  have hS : va_S A s.heap s.heap [] := va_S.rf
  have hl := lv_entry ([.ref xx, .int x]) (n := 2) (Nat.le_of_ble_eq_true rfl)
  rw [lg_entry_eq]
  generalize (lg_sl ([.ref xx, .int x]) ++ List.replicate (2 - (lg_sl ([.ref xx, .int x])).length) Slot.unset).toArray = ls at hl ⊢
  have hl : lv_has ls 2 [(0, .ref xx), (1, .int x)] := hl
  obtain ⟨Q0, hQ⟩ : ∃ Q0 : State → Prop, Q0 = MQ below (va_Qi (fun (r : Int32) (_ : Unit) => r = cond (mo_day x && decide (hc < 60 ∧ ho_nx hd hc 0 x.toNatClampNeg = x.toNatClampNeg)) (nI (hc + 1)) 0) (fun _ => wy_N (dC, dI) ga_cl [(cI, .int)] A [(xx, .inr (4, [.ref rd, .ref qa, .ref ho, .ref li, .int (nI cn), pr])), (ho, .inr (0, [.ref ha, .int (nI (cond (mo_day x && decide (hc < 60 ∧ ho_nx hd hc 0 x.toNatClampNeg = x.toNatClampNeg)) (hc + 1) hc))])), (ha, .inl (cI, 60, .inl (cond (mo_day x && decide (hc < 60 ∧ ho_nx hd hc 0 x.toNatClampNeg = x.toNatClampNeg)) (upd (ho_ins x hc hd).2 (ho_ins x hc hd).1 x) hd)))]) A) ([.ref xx, .int x] : List Value).toArray s 0 0 A := ⟨_, rfl⟩
  show W p l e ({ frames := 2, cells := 0, slots := 0, locals := 45 }) s m ([.ref xx, .int x] : List Value).toArray below meth c s.heap [] 0 0 (MQ below (va_Qi (fun (r : Int32) (_ : Unit) => r = cond (mo_day x && decide (hc < 60 ∧ ho_nx hd hc 0 x.toNatClampNeg = x.toNatClampNeg)) (nI (hc + 1)) 0) (fun _ => wy_N (dC, dI) ga_cl [(cI, .int)] A [(xx, .inr (4, [.ref rd, .ref qa, .ref ho, .ref li, .int (nI cn), pr])), (ho, .inr (0, [.ref ha, .int (nI (cond (mo_day x && decide (hc < 60 ∧ ho_nx hd hc 0 x.toNatClampNeg = x.toNatClampNeg)) (hc + 1) hc))])), (ha, .inl (cI, 60, .inl (cond (mo_day x && decide (hc < 60 ∧ ho_nx hd hc 0 x.toNatClampNeg = x.toNatClampNeg)) (upd (ho_ins x hc hd).2 (ho_ins x hc hd).1 x) hd)))]) A) ([.ref xx, .int x] : List Value).toArray s 0 0 A) (F0 m 0 ls [])
  rw [← hQ]
  refine lv_iload_n hx hb d_Pa_holiday_0 rfl (lv_at hl 1 rfl) ?_
  refine vp_callSi (va_runS (As := [.int x]) (rest := []) ⟨hx, hb, hml, hown, hts⟩ (c_Pa_isDay l dC dI x ) (cwS 1 hts (ga_S kw_350 kw_351 kw_34 (ga_in kw_352)) rfl rfl rfl (by decide +kernel) ⟨Nat.le_of_ble_eq_true rfl, Nat.le_of_ble_eq_true rfl⟩) (wy_preS (hP.sub (ws' := []) [] rfl) (hK.sub (tys' := []) [] rfl) hN) rfl rfl hl.1 rfl (lv_room (Nat.le_of_ble_eq_true rfl)) d_Pa_holiday_1 ⟨Nat.le_of_ble_eq_true rfl, Nat.le_of_ble_eq_true rfl⟩).run (fun r_1 h_1 => ?_)
  subst h_1
  refine wy_ifeqB (tgt := 28) hx hb d_Pa_holiday_4 (by decide) (fun c_4 => ?_) (fun c_4 => ?_)
  · refine lv_iconst (v := 0) hx hb d_Pa_holiday_28 (by decide) ?_
    rw [hQ]
    have z9 : (mo_day x && decide (hc < 60 ∧ ho_nx hd hc 0 x.toNatClampNeg = x.toNatClampNeg)) = false := by rw [c_4]; rfl
    have q9 : (0 : Int32) = cond (mo_day x && decide (hc < 60 ∧ ho_nx hd hc 0 x.toNatClampNeg = x.toNatClampNeg)) (nI (hc + 1)) 0 := by rw [z9]; rfl
    have e9 : ([(xx, .inr (4, [.ref rd, .ref qa, .ref ho, .ref li, .int (nI cn), pr])), (ho, .inr (0, [.ref ha, .int (nI (cond (mo_day x && decide (hc < 60 ∧ ho_nx hd hc 0 x.toNatClampNeg = x.toNatClampNeg)) (hc + 1) hc))])), (ha, .inl (cI, 60, .inl (cond (mo_day x && decide (hc < 60 ∧ ho_nx hd hc 0 x.toNatClampNeg = x.toNatClampNeg)) (upd (ho_ins x hc hd).2 (ho_ins x hc hd).1 x) hd)))] : va_W) = [(xx, .inr (4, [.ref rd, .ref qa, .ref ho, .ref li, .int (nI cn), pr])), (ho, .inr (0, [.ref ha, .int (nI hc)])), (ha, .inl (cI, 60, .inl hd))] := by rw [z9] <;> rfl
    exact W.iret (v := 0) hx hb hr (fun t ht hW => ⟨⟨_, (), rfl, q9, by rw [ht, e9]; exact hP, va_K.moved hW.alike hK, by rw [e9]; exact hD⟩, hS.F ht⟩) hS.2.2 d_Pa_holiday_29
  · obtain ⟨d, hd0, rfl⟩ := mo_day_of c_4
    refine lv_aload_n hx hb d_Pa_holiday_7 rfl (lv_at hl 0 rfl) ?_
    refine va_get (D := (dC, dI)) (ci := 4) (v := .ref ho) (C := "PatternText") (T := F_Pa) (N := 6) hx hb hts iw_Pa hown hK hP 0 rfl rfl 2 (by decide) (hts _ kw_157) (fun _ h9 => h9) rfl d_Pa_holiday_8 ?_
    refine lv_iload_n hx hb d_Pa_holiday_11 rfl (lv_at hl 1 rfl) ?_
    refine wy_calli (wr := [(xx, .inr (4, [.ref rd, .ref qa, .ref ho, .ref li, .int (nI cn), pr]))]) (w1 := [(ho, .inr (0, [.ref ha, .int (nI (cond (decide (hc < 60 ∧ ho_nx hd hc 0 d = d)) (hc + 1) hc))])), (ha, .inl (cI, 60, .inl (cond (decide (hc < 60 ∧ ho_nx hd hc 0 d = d)) (upd (ho_ins (nI d) hc hd).2 (ho_ins (nI d) hc hd).1 (nI d)) hd)))]) (va_runV (As := [.int (nI d)]) (rest := []) ⟨hx, hb, hml, hown, hts⟩ (c_Ho_add l dC dI s.heap.size ho ha cI hd hc d (by omega) (by omega)) (cwV 1 hts (ga_V kw_434 kw_435 kw_436 kw_36 (ga_in kw_437)) rfl rfl rfl (by decide +kernel) ⟨Nat.le_of_ble_eq_true rfl, Nat.le_of_ble_eq_true rfl⟩) (wy_mreV 0 (hP.sub (ws' := [(ho, .inr (0, [.ref ha, .int (nI hc)])), (ha, .inl (cI, 60, .inl hd))]) [1, 2] rfl) (hK.sub (tys' := [(cI, .int)]) [0] rfl) hN (hD.sub (ws' := [(ho, .inr (0, [.ref ha, .int (nI hc)])), (ha, .inl (cI, 60, .inl hd))]) [1, 2] (by decide) rfl) (ci := 0) rfl rfl rfl) rfl rfl hl.1 rfl (lv_room (Nat.le_of_ble_eq_true rfl)) d_Pa_holiday_12 ⟨Nat.le_of_ble_eq_true rfl, Nat.le_of_ble_eq_true rfl⟩) hP hD hS hA [1, 2] [0] rfl rfl (by decide) (by decide) (fun H locs hP hD hS => ?_)
    have hP := hP.sub (ws' := [(xx, .inr (4, [.ref rd, .ref qa, .ref ho, .ref li, .int (nI cn), pr])), (ho, .inr (0, [.ref ha, .int (nI (cond (decide (hc < 60 ∧ ho_nx hd hc 0 d = d)) (hc + 1) hc))])), (ha, .inl (cI, 60, .inl (cond (decide (hc < 60 ∧ ho_nx hd hc 0 d = d)) (upd (ho_ins (nI d) hc hd).2 (ho_ins (nI d) hc hd).1 (nI d)) hd)))]) [0, 1, 2] rfl
    have hD := hD.sub (ws' := [(xx, .inr (4, [.ref rd, .ref qa, .ref ho, .ref li, .int (nI cn), pr])), (ho, .inr (0, [.ref ha, .int (nI (cond (decide (hc < 60 ∧ ho_nx hd hc 0 d = d)) (hc + 1) hc))])), (ha, .inl (cI, 60, .inl (cond (decide (hc < 60 ∧ ho_nx hd hc 0 d = d)) (upd (ho_ins (nI d) hc hd).2 (ho_ins (nI d) hc hd).1 (nI d)) hd)))]) [0, 1, 2] (by decide) rfl
    rcases hb_12 : decide (hc < 60 ∧ ho_nx hd hc 0 d = d) with _ | _
    · rw [hb_12] at hP hD
      have hP : va_P (dC, dI) ga_cl [(xx, .inr (4, [.ref rd, .ref qa, .ref ho, .ref li, .int (nI cn), pr])), (ho, .inr (0, [.ref ha, .int (nI hc)])), (ha, .inl (cI, 60, .inl hd))] H := hP
      have hD : va_D A [(xx, .inr (4, [.ref rd, .ref qa, .ref ho, .ref li, .int (nI cn), pr])), (ho, .inr (0, [.ref ha, .int (nI hc)])), (ha, .inl (cI, 60, .inl hd))] := hD
      refine lv_if_eq (tgt := 28) hx hb d_Pa_holiday_15 (by decide) (fun _ => ?_) (fun z9 => absurd z9 (by decide))
      refine lv_iconst (v := 0) hx hb d_Pa_holiday_28 (by decide) ?_
      rw [hQ]
      have z9 : (mo_day (nI d) && decide (hc < 60 ∧ ho_nx hd hc 0 (nI d).toNatClampNeg = (nI d).toNatClampNeg)) = false := by rw [c_4, nI_clamp (show d < 2 ^ 31 by omega), hb_12]; rfl
      have q9 : (0 : Int32) = cond (mo_day (nI d) && decide (hc < 60 ∧ ho_nx hd hc 0 (nI d).toNatClampNeg = (nI d).toNatClampNeg)) (nI (hc + 1)) 0 := by rw [z9]; rfl
      have e9 : ([(xx, .inr (4, [.ref rd, .ref qa, .ref ho, .ref li, .int (nI cn), pr])), (ho, .inr (0, [.ref ha, .int (nI (cond (mo_day (nI d) && decide (hc < 60 ∧ ho_nx hd hc 0 (nI d).toNatClampNeg = (nI d).toNatClampNeg)) (hc + 1) hc))])), (ha, .inl (cI, 60, .inl (cond (mo_day (nI d) && decide (hc < 60 ∧ ho_nx hd hc 0 (nI d).toNatClampNeg = (nI d).toNatClampNeg)) (upd (ho_ins (nI d) hc hd).2 (ho_ins (nI d) hc hd).1 (nI d)) hd)))] : va_W) = [(xx, .inr (4, [.ref rd, .ref qa, .ref ho, .ref li, .int (nI cn), pr])), (ho, .inr (0, [.ref ha, .int (nI hc)])), (ha, .inl (cI, 60, .inl hd))] := by rw [z9] <;> rfl
      exact W.iret (v := 0) hx hb hr (fun t ht hW => ⟨⟨_, (), rfl, q9, by rw [ht, e9]; exact hP, va_K.moved hW.alike hK, by rw [e9]; exact hD⟩, hS.F ht⟩) hS.2.2 d_Pa_holiday_29
    · rw [hb_12] at hP hD
      have hP : va_P (dC, dI) ga_cl [(xx, .inr (4, [.ref rd, .ref qa, .ref ho, .ref li, .int (nI cn), pr])), (ho, .inr (0, [.ref ha, .int (nI (hc + 1))])), (ha, .inl (cI, 60, .inl (upd (ho_ins (nI d) hc hd).2 (ho_ins (nI d) hc hd).1 (nI d))))] H := hP
      have hD : va_D A [(xx, .inr (4, [.ref rd, .ref qa, .ref ho, .ref li, .int (nI cn), pr])), (ho, .inr (0, [.ref ha, .int (nI (hc + 1))])), (ha, .inl (cI, 60, .inl (upd (ho_ins (nI d) hc hd).2 (ho_ins (nI d) hc hd).1 (nI d))))] := hD
      refine lv_if_eq (tgt := 28) hx hb d_Pa_holiday_15 (by decide) (fun z9 => absurd z9 (by decide)) (fun _ => ?_)
      refine lv_aload_n hx hb d_Pa_holiday_18 rfl (lv_at hl 0 rfl) ?_
      refine va_get (D := (dC, dI)) (ci := 4) (v := .ref ho) (C := "PatternText") (T := F_Pa) (N := 6) hx hb hts iw_Pa hown hK hP 0 rfl rfl 2 (by decide) (hts _ kw_157) (fun _ h9 => h9) rfl d_Pa_holiday_19 ?_
      refine va_getN (D := (dC, dI)) (ci := 0) (v := .int (nI (hc + 1))) (C := "PatternText$Holidays") (T := F_Ho) (N := 2) hx hb hts iw_Ho hown hK hP 1 rfl rfl 1 (by decide) (nw_104 hN) (fun _ h9 => h9) rfl d_Pa_holiday_22 ?_
      refine lv_goto (tgt := 29) hx hb d_Pa_holiday_25 (by decide) ?_
      rw [hQ]
      have z9 : (mo_day (nI d) && decide (hc < 60 ∧ ho_nx hd hc 0 (nI d).toNatClampNeg = (nI d).toNatClampNeg)) = true := by rw [c_4, nI_clamp (show d < 2 ^ 31 by omega), hb_12]; rfl
      have q9 : (nI (hc + 1) : Int32) = cond (mo_day (nI d) && decide (hc < 60 ∧ ho_nx hd hc 0 (nI d).toNatClampNeg = (nI d).toNatClampNeg)) (nI (hc + 1)) 0 := by rw [z9]; rfl
      have e9 : ([(xx, .inr (4, [.ref rd, .ref qa, .ref ho, .ref li, .int (nI cn), pr])), (ho, .inr (0, [.ref ha, .int (nI (cond (mo_day (nI d) && decide (hc < 60 ∧ ho_nx hd hc 0 (nI d).toNatClampNeg = (nI d).toNatClampNeg)) (hc + 1) hc))])), (ha, .inl (cI, 60, .inl (cond (mo_day (nI d) && decide (hc < 60 ∧ ho_nx hd hc 0 (nI d).toNatClampNeg = (nI d).toNatClampNeg)) (upd (ho_ins (nI d) hc hd).2 (ho_ins (nI d) hc hd).1 (nI d)) hd)))] : va_W) = [(xx, .inr (4, [.ref rd, .ref qa, .ref ho, .ref li, .int (nI cn), pr])), (ho, .inr (0, [.ref ha, .int (nI (hc + 1))])), (ha, .inl (cI, 60, .inl (upd (ho_ins (nI d) hc hd).2 (ho_ins (nI d) hc hd).1 (nI d))))] := by rw [z9] <;> rfl
      exact W.iret (v := nI (hc + 1)) hx hb hr (fun t ht hW => ⟨⟨_, (), rfl, q9, by rw [ht, e9]; exact hP, va_K.moved hW.alike hK, by rw [e9]; exact hD⟩, hS.F ht⟩) hS.2.2 d_Pa_holiday_29

set_option maxHeartbeats 4000000 in
set_option maxRecDepth 100000 in
theorem c_Pa_late (l : Launch) (dC : Nat → ClassId) (dI : Nat → Nat → Nat) (xx : Nat) (rd : Nat) (qa : Nat) (ho : Nat) (li : Nat) (cn : Nat) (pr : Value) (a0 : Nat) (a1 : Nat) (a2 : Nat) (a3 : Nat) (a4 : Nat) (a5 : Nat) (a6 : Nat) (a7 : Nat) (a8 : Nat) (ns : Nat) (cI : ClassId) (fe : Nat → Int32) (fc : Nat → Int32) (x : Int32) (y : Int32) (hn : ns ≤ 100) : Met l y_Pa_late w_Pa_late ({ frames := 2, cells := 0, slots := 0, locals := 42 }) (va_Pc [.ref xx, .int x, .int y] (wy_R (dC, dI) ga_cl [(xx, .inr (4, [.ref rd, .ref qa, .ref ho, .ref li, .int (nI cn), pr])), (li, .inr (1, [.ref a0, .ref a1, .ref a2, .ref a3, .ref a4, .ref a5, .ref a6, .ref a7, .ref a8, .int (nI ns)])), (a1, .inl (cI, 100, .inl fe)), (a8, .inl (cI, 100, .inl fc))] [(cI, .int)])) (vp_Si (fun r => r = cond (li_has ns x && mo_day y) (mo_late fc fe x.toNatClampNeg y) (-1))) 0 0 (fun _ => False) := by
  refine Met.ofW (cc := b_Pa_late) (maxL := 4) (ret := (some .int)) (by decide) rfl ?_
  intro p e s m args below meth c s₁ B hml hv
  obtain ⟨rfl, hP, hK, hN⟩ := hv
  have hx := B.exec
  have hb := B.bytes
  have hr := B.returns
  have hts : ∀ w ∈ ga_tbl, w.before _ s = true := fun w h => atoms_spec (ws := w_Pa_late) B.pre w (List.mem_cons_of_mem _ h)
  have hown : s.vm.findClass "PatternText" = some m.cls := findClass_of_methodNamed B.named
  have hlocks := B.notSynchronized
  have hl := lv_entry ([.ref xx, .int x, .int y]) (n := 4) (Nat.le_of_ble_eq_true rfl)
  rw [lg_entry_eq]
  generalize (lg_sl ([.ref xx, .int x, .int y]) ++ List.replicate (4 - (lg_sl ([.ref xx, .int x, .int y])).length) Slot.unset).toArray = ls at hl ⊢
  have hl : lv_has ls 4 [(0, .ref xx), (1, .int x), (2, .int y)] := hl
  refine lv_aload_n hx hb d_Pa_late_0 rfl (lv_at hl 0 rfl) ?_
  refine va_get (D := (dC, dI)) (ci := 4) (v := .ref li) (C := "PatternText") (T := F_Pa) (N := 6) hx hb hts iw_Pa hown hK hP 0 rfl rfl 3 (by decide) (hts _ kw_158) (fun _ h9 => h9) rfl d_Pa_late_1 ?_
  refine lv_iload_n hx hb d_Pa_late_4 rfl (lv_at hl 1 rfl) ?_
  refine vp_callSi (va_runV (As := [.int x]) (rest := []) ⟨hx, hb, hml, hown, hts⟩ (c_Li_has l dC dI li a0 a1 a2 a3 a4 a5 a6 a7 a8 ns x ) (cwV 1 hts (ga_V kw_419 kw_412 kw_413 kw_37 (ga_in kw_414)) rfl rfl rfl (by decide +kernel) ⟨Nat.le_of_ble_eq_true rfl, Nat.le_of_ble_eq_true rfl⟩) (wy_preV 0 (hP.sub (ws' := [(li, .inr (1, [.ref a0, .ref a1, .ref a2, .ref a3, .ref a4, .ref a5, .ref a6, .ref a7, .ref a8, .int (nI ns)]))]) [1] rfl) (hK.sub (tys' := []) [] rfl) hN (ci := 1) rfl rfl rfl) rfl rfl hl.1 rfl (lv_room (Nat.le_of_ble_eq_true rfl)) d_Pa_late_5 ⟨Nat.le_of_ble_eq_true rfl, Nat.le_of_ble_eq_true rfl⟩).run (fun r_5 h_5 => ?_)
  subst h_5
  refine wy_ifeqB (tgt := 18) hx hb d_Pa_late_8 (by decide) (fun c_8 => ?_) (fun c_8 => ?_)
  · refine lv_iconst (v := -1) hx hb d_Pa_late_18 (by decide) ?_
    have z9 : (li_has ns x && mo_day y) = false := by rw [c_8]; rfl
    have q9 : ((-1) : Int32) = cond (li_has ns x && mo_day y) (mo_late fc fe x.toNatClampNeg y) (-1) := by rw [z9]; rfl
    exact W.iret (v := (-1)) hx hb hr (fun t ht _ => ⟨_, rfl, q9, ht⟩) (fun _ h9 => by cases h9) d_Pa_late_19
  · obtain ⟨k, hk, rfl⟩ := li_has_of (by omega) c_8
    have c_8 : li_has ns (nI k) = true := by rw [li_has_nI (by omega) (by omega), decide_eq_true hk]
    refine lv_iload_n hx hb d_Pa_late_11 rfl (lv_at hl 2 rfl) ?_
    refine vp_callSi (va_runS (As := [.int y]) (rest := []) ⟨hx, hb, hml, hown, hts⟩ (c_Pa_isDay l dC dI y ) (cwS 1 hts (ga_S kw_350 kw_351 kw_34 (ga_in kw_352)) rfl rfl rfl (by decide +kernel) ⟨Nat.le_of_ble_eq_true rfl, Nat.le_of_ble_eq_true rfl⟩) (wy_preS (hP.sub (ws' := []) [] rfl) (hK.sub (tys' := []) [] rfl) hN) rfl rfl hl.1 rfl (lv_room (Nat.le_of_ble_eq_true rfl)) d_Pa_late_12 ⟨Nat.le_of_ble_eq_true rfl, Nat.le_of_ble_eq_true rfl⟩).run (fun r_12 h_12 => ?_)
    subst h_12
    refine wy_ifneB (tgt := 20) hx hb d_Pa_late_15 (by decide) (fun c_15 => ?_) (fun c_15 => ?_)
    · refine lv_aload_n hx hb d_Pa_late_20 rfl (lv_at hl 0 rfl) ?_
      refine va_get (D := (dC, dI)) (ci := 4) (v := .ref li) (C := "PatternText") (T := F_Pa) (N := 6) hx hb hts iw_Pa hown hK hP 0 rfl rfl 3 (by decide) (hts _ kw_158) (fun _ h9 => h9) rfl d_Pa_late_21 ?_
      refine lv_iload_n hx hb d_Pa_late_24 rfl (lv_at hl 1 rfl) ?_
      refine vp_callSi (va_runV (As := [.int (nI k)]) (rest := []) ⟨hx, hb, hml, hown, hts⟩ (c_Li_isOut l dC dI li a0 a1 a2 a3 a4 a5 a6 a7 a8 ns cI fc (nI k) (by omega)) (cwV 1 hts (ga_V kw_420 kw_408 kw_409 kw_37 (ga_in kw_410)) rfl rfl rfl (by decide +kernel) ⟨Nat.le_of_ble_eq_true rfl, Nat.le_of_ble_eq_true rfl⟩) (wy_preV 0 (hP.sub (ws' := [(li, .inr (1, [.ref a0, .ref a1, .ref a2, .ref a3, .ref a4, .ref a5, .ref a6, .ref a7, .ref a8, .int (nI ns)])), (a8, .inl (cI, 100, .inl fc))]) [1, 3] rfl) (hK.sub (tys' := [(cI, .int)]) [0] rfl) hN (ci := 1) rfl rfl rfl) rfl rfl hl.1 rfl (lv_room (Nat.le_of_ble_eq_true rfl)) d_Pa_late_25 ⟨Nat.le_of_ble_eq_true rfl, Nat.le_of_ble_eq_true rfl⟩).run (fun r_25 h_25 => ?_)
      subst h_25
      refine wy_cvi (y := bo_I (decide (fc k = (-1)))) (congrArg bo_I (by rw [li_out_nI (by omega) (by omega), decide_eq_true hk, Bool.true_and])) ?_
      refine wy_ifeqB (tgt := 35) hx hb d_Pa_late_28 (by decide) (fun c_28 => ?_) (fun c_28 => ?_)
      · refine lv_aload_n hx hb d_Pa_late_35 rfl (lv_at hl 0 rfl) ?_
        refine va_get (D := (dC, dI)) (ci := 4) (v := .ref li) (C := "PatternText") (T := F_Pa) (N := 6) hx hb hts iw_Pa hown hK hP 0 rfl rfl 3 (by decide) (hts _ kw_158) (fun _ h9 => h9) rfl d_Pa_late_36 ?_
        refine va_getN (D := (dC, dI)) (ci := 1) (v := .ref a8) (C := "PatternText$IssueList") (T := F_Li) (N := 10) hx hb hts iw_Li hown hK hP 1 rfl rfl 8 (by decide) (nw_131 hN) (fun _ h9 => h9) rfl d_Pa_late_39 ?_
        refine lv_iload_n hx hb d_Pa_late_42 rfl (lv_at hl 1 rfl) ?_
        refine wy_iald hx hb hK hP 3 0 k rfl rfl (by omega) (by omega) d_Pa_late_43 ?_
        refine lv_istore_n (lv' := [(3, .int (fc k)), (0, .ref xx), (1, .int (nI k)), (2, .int y)]) hx hb d_Pa_late_44 rfl hl (by decide) rfl (fun ls hl => ?_)
        refine lv_iconst (v := 0) hx hb d_Pa_late_45 (by decide) ?_
        refine lv_iload_n hx hb d_Pa_late_46 rfl (lv_at hl 0 rfl) ?_
        refine lv_aload_n hx hb d_Pa_late_47 rfl (lv_at hl 1 rfl) ?_
        refine va_get (D := (dC, dI)) (ci := 4) (v := .ref li) (C := "PatternText") (T := F_Pa) (N := 6) hx hb hts iw_Pa hown hK hP 0 rfl rfl 3 (by decide) (hts _ kw_158) (fun _ h9 => h9) rfl d_Pa_late_48 ?_
        refine va_getN (D := (dC, dI)) (ci := 1) (v := .ref a1) (C := "PatternText$IssueList") (T := F_Li) (N := 10) hx hb hts iw_Li hown hK hP 1 rfl rfl 1 (by decide) (nw_118 hN) (fun _ h9 => h9) rfl d_Pa_late_51 ?_
        refine lv_iload_n hx hb d_Pa_late_54 rfl (lv_at hl 2 rfl) ?_
        refine wy_iald hx hb hK hP 2 0 k rfl rfl (by omega) (by omega) d_Pa_late_55 ?_
        refine lv_isub hx hb d_Pa_late_56 ?_
        refine va_mmax hx hb (hml.trans hl.1.symm) hown (hts _ kw_447) (hts _ kw_405) (hts _ kw_43) (hts _ kw_406) (Nat.le_of_ble_eq_true rfl) (Nat.le_of_ble_eq_true rfl) (Nat.le_of_ble_eq_true rfl) (Nat.le_of_ble_eq_true rfl) d_Pa_late_57 ?_
        have z9 : (li_has ns (nI k) && mo_day y) = true := by rw [c_8, c_15]; rfl
        have q9 : (if 0 < ((fc k) - (fe k)) then ((fc k) - (fe k)) else 0 : Int32) = cond (li_has ns (nI k) && mo_day y) (mo_late fc fe (nI k).toNatClampNeg y) (-1) := by rw [z9, nI_clamp (by omega)]; show _ = mo_late fc fe k y; unfold mo_late; first | rw [if_pos (of_decide_eq_true c_28)] | rw [if_neg (of_decide_eq_false c_28)]
        exact W.iret (v := if 0 < ((fc k) - (fe k)) then ((fc k) - (fe k)) else 0) hx hb hr (fun t ht _ => ⟨_, rfl, q9, ht⟩) (fun _ h9 => by cases h9) d_Pa_late_60
      · refine lv_iload_n hx hb d_Pa_late_31 rfl (lv_at hl 2 rfl) ?_
        refine lv_goto (tgt := 44) hx hb d_Pa_late_32 (by decide) ?_
        refine lv_istore_n (lv' := [(3, .int y), (0, .ref xx), (1, .int (nI k)), (2, .int y)]) hx hb d_Pa_late_44 rfl hl (by decide) rfl (fun ls hl => ?_)
        refine lv_iconst (v := 0) hx hb d_Pa_late_45 (by decide) ?_
        refine lv_iload_n hx hb d_Pa_late_46 rfl (lv_at hl 0 rfl) ?_
        refine lv_aload_n hx hb d_Pa_late_47 rfl (lv_at hl 1 rfl) ?_
        refine va_get (D := (dC, dI)) (ci := 4) (v := .ref li) (C := "PatternText") (T := F_Pa) (N := 6) hx hb hts iw_Pa hown hK hP 0 rfl rfl 3 (by decide) (hts _ kw_158) (fun _ h9 => h9) rfl d_Pa_late_48 ?_
        refine va_getN (D := (dC, dI)) (ci := 1) (v := .ref a1) (C := "PatternText$IssueList") (T := F_Li) (N := 10) hx hb hts iw_Li hown hK hP 1 rfl rfl 1 (by decide) (nw_118 hN) (fun _ h9 => h9) rfl d_Pa_late_51 ?_
        refine lv_iload_n hx hb d_Pa_late_54 rfl (lv_at hl 2 rfl) ?_
        refine wy_iald hx hb hK hP 2 0 k rfl rfl (by omega) (by omega) d_Pa_late_55 ?_
        refine lv_isub hx hb d_Pa_late_56 ?_
        refine va_mmax hx hb (hml.trans hl.1.symm) hown (hts _ kw_447) (hts _ kw_405) (hts _ kw_43) (hts _ kw_406) (Nat.le_of_ble_eq_true rfl) (Nat.le_of_ble_eq_true rfl) (Nat.le_of_ble_eq_true rfl) (Nat.le_of_ble_eq_true rfl) d_Pa_late_57 ?_
        have z9 : (li_has ns (nI k) && mo_day y) = true := by rw [c_8, c_15]; rfl
        have q9 : (if 0 < (y - (fe k)) then (y - (fe k)) else 0 : Int32) = cond (li_has ns (nI k) && mo_day y) (mo_late fc fe (nI k).toNatClampNeg y) (-1) := by rw [z9, nI_clamp (by omega)]; show _ = mo_late fc fe k y; unfold mo_late; first | rw [if_pos (of_decide_eq_true c_28)] | rw [if_neg (of_decide_eq_false c_28)]
        exact W.iret (v := if 0 < (y - (fe k)) then (y - (fe k)) else 0) hx hb hr (fun t ht _ => ⟨_, rfl, q9, ht⟩) (fun _ h9 => by cases h9) d_Pa_late_60
    · refine lv_iconst (v := -1) hx hb d_Pa_late_18 (by decide) ?_
      have z9 : (li_has ns (nI k) && mo_day y) = false := by rw [c_8, c_15]; rfl
      have q9 : ((-1) : Int32) = cond (li_has ns (nI k) && mo_day y) (mo_late fc fe (nI k).toNatClampNeg y) (-1) := by rw [z9]; rfl
      exact W.iret (v := (-1)) hx hb hr (fun t ht _ => ⟨_, rfl, q9, ht⟩) (fun _ h9 => by cases h9) d_Pa_late_19

set_option maxHeartbeats 4000000 in
set_option maxRecDepth 100000 in
theorem c_Pa_claim (l : Launch) (dC : Nat → ClassId) (dI : Nat → Nat → Nat) (xx : Nat) (rd : Nat) (qa : Nat) (ho : Nat) (li : Nat) (cn : Nat) (pr : Value) (a0 : Nat) (a1 : Nat) (a2 : Nat) (a3 : Nat) (a4 : Nat) (a5 : Nat) (a6 : Nat) (a7 : Nat) (a8 : Nat) (ns : Nat) (cI : ClassId) (fe : Nat → Int32) (fc : Nat → Int32) (x : Int32) (y : Int32) (hn : ns ≤ 100) : Met l y_Pa_claim w_Pa_claim ({ frames := 4, cells := 0, slots := 0, locals := 89 }) (va_Pc [.ref xx, .int x, .int y] (wy_R (dC, dI) ga_cl [(xx, .inr (4, [.ref rd, .ref qa, .ref ho, .ref li, .int (nI cn), pr])), (li, .inr (1, [.ref a0, .ref a1, .ref a2, .ref a3, .ref a4, .ref a5, .ref a6, .ref a7, .ref a8, .int (nI ns)])), (a1, .inl (cI, 100, .inl fe)), (a8, .inl (cI, 100, .inl fc))] [(cI, .int)])) (vp_Si (fun r => r = cond (mo_day x && (decide (0 ≤ y) && decide (y < nI (li_cnt ns fc fe x ns 0 0)))) (pt_oi (li_it ns fc fe x (y.toNatClampNeg + 1) none)) (-1))) 0 0 (fun _ => False) := by
  refine Met.ofW (cc := b_Pa_claim) (maxL := 5) (ret := (some .int)) (by decide) rfl ?_
  intro p e s m args below meth c s₁ B hml hv
  obtain ⟨rfl, hP, hK, hN⟩ := hv
  have hx := B.exec
  have hb := B.bytes
  have hr := B.returns
  have hts : ∀ w ∈ ga_tbl, w.before _ s = true := fun w h => atoms_spec (ws := w_Pa_claim) B.pre w (List.mem_cons_of_mem _ h)
  have hown : s.vm.findClass "PatternText" = some m.cls := findClass_of_methodNamed B.named
  have hlocks := B.notSynchronized
  have hl := lv_entry ([.ref xx, .int x, .int y]) (n := 5) (Nat.le_of_ble_eq_true rfl)
  rw [lg_entry_eq]
  generalize (lg_sl ([.ref xx, .int x, .int y]) ++ List.replicate (5 - (lg_sl ([.ref xx, .int x, .int y])).length) Slot.unset).toArray = ls at hl ⊢
  have hl : lv_has ls 5 [(0, .ref xx), (1, .int x), (2, .int y)] := hl
  obtain ⟨Q0, hQ⟩ : ∃ Q0 : State → Prop, Q0 = MQ below (vp_Si (fun r => r = cond (mo_day x && (decide (0 ≤ y) && decide (y < nI (li_cnt ns fc fe x ns 0 0)))) (pt_oi (li_it ns fc fe x (y.toNatClampNeg + 1) none)) (-1))) ([.ref xx, .int x, .int y] : List Value).toArray s 0 0 (fun _ => False) := ⟨_, rfl⟩
  show W p l e ({ frames := 4, cells := 0, slots := 0, locals := 89 }) s m ([.ref xx, .int x, .int y] : List Value).toArray below meth c s.heap [] 0 0 (MQ below (vp_Si (fun r => r = cond (mo_day x && (decide (0 ≤ y) && decide (y < nI (li_cnt ns fc fe x ns 0 0)))) (pt_oi (li_it ns fc fe x (y.toNatClampNeg + 1) none)) (-1))) ([.ref xx, .int x, .int y] : List Value).toArray s 0 0 (fun _ => False)) (F0 m 0 ls [])
  rw [← hQ]
  have hcl := li_cnt_le (n := ns) (fc := fc) (fe := fe) (dy := x) ns 0 0
  refine lv_iload_n hx hb d_Pa_claim_0 rfl (lv_at hl 1 rfl) ?_
  refine vp_callSi (va_runS (As := [.int x]) (rest := []) ⟨hx, hb, hml, hown, hts⟩ (c_Pa_isDay l dC dI x ) (cwS 1 hts (ga_S kw_350 kw_351 kw_34 (ga_in kw_352)) rfl rfl rfl (by decide +kernel) ⟨Nat.le_of_ble_eq_true rfl, Nat.le_of_ble_eq_true rfl⟩) (wy_preS (hP.sub (ws' := []) [] rfl) (hK.sub (tys' := []) [] rfl) hN) rfl rfl hl.1 rfl (lv_room (Nat.le_of_ble_eq_true rfl)) d_Pa_claim_1 ⟨Nat.le_of_ble_eq_true rfl, Nat.le_of_ble_eq_true rfl⟩).run (fun r_1 h_1 => ?_)
  subst h_1
  refine wy_ifeqB (tgt := 23) hx hb d_Pa_claim_4 (by decide) (fun c_4 => ?_) (fun c_4 => ?_)
  · refine lv_iconst (v := -1) hx hb d_Pa_claim_23 (by decide) ?_
    rw [hQ]
    have z9 : (mo_day x && (decide (0 ≤ y) && decide (y < nI (li_cnt ns fc fe x ns 0 0)))) = false := by rw [c_4]; rfl
    have q9 : ((-1) : Int32) = cond (mo_day x && (decide (0 ≤ y) && decide (y < nI (li_cnt ns fc fe x ns 0 0)))) (pt_oi (li_it ns fc fe x (y.toNatClampNeg + 1) none)) (-1) := by rw [z9]; rfl
    exact W.iret (v := (-1)) hx hb hr (fun t ht _ => ⟨_, rfl, q9, ht⟩) (fun _ h9 => by cases h9) d_Pa_claim_24
  · refine lv_iload_n hx hb d_Pa_claim_7 rfl (lv_at hl 2 rfl) ?_
    refine lv_if_lt (tgt := 23) hx hb d_Pa_claim_8 (by decide) (fun c_8 => ?_) (fun c_8 => ?_)
    · refine lv_iconst (v := -1) hx hb d_Pa_claim_23 (by decide) ?_
      rw [hQ]
      have z9 : (mo_day x && (decide (0 ≤ y) && decide (y < nI (li_cnt ns fc fe x ns 0 0)))) = false := by rw [c_4, decide_eq_false (Int32.not_le.mpr c_8)]; rfl
      have q9 : ((-1) : Int32) = cond (mo_day x && (decide (0 ≤ y) && decide (y < nI (li_cnt ns fc fe x ns 0 0)))) (pt_oi (li_it ns fc fe x (y.toNatClampNeg + 1) none)) (-1) := by rw [z9]; rfl
      exact W.iret (v := (-1)) hx hb hr (fun t ht _ => ⟨_, rfl, q9, ht⟩) (fun _ h9 => by cases h9) d_Pa_claim_24
    · refine lv_iload_n hx hb d_Pa_claim_11 rfl (lv_at hl 2 rfl) ?_
      refine lv_aload_n hx hb d_Pa_claim_12 rfl (lv_at hl 0 rfl) ?_
      refine va_get (D := (dC, dI)) (ci := 4) (v := .ref li) (C := "PatternText") (T := F_Pa) (N := 6) hx hb hts iw_Pa hown hK hP 0 rfl rfl 3 (by decide) (hts _ kw_158) (fun _ h9 => h9) rfl d_Pa_claim_13 ?_
      refine lv_iload_n hx hb d_Pa_claim_16 rfl (lv_at hl 1 rfl) ?_
      refine vp_callSi (va_runV (As := [.int x]) (rest := [.int y]) ⟨hx, hb, hml, hown, hts⟩ (c_Li_countOverdue l dC dI li a0 a1 a2 a3 a4 a5 a6 a7 a8 ns cI fc fe x (by omega)) (cwV 1 hts (ga_V kw_452 kw_453 kw_454 kw_37 (ga_in kw_455)) rfl rfl rfl (by decide +kernel) ⟨Nat.le_of_ble_eq_true rfl, Nat.le_of_ble_eq_true rfl⟩) (wy_preV 0 (hP.sub (ws' := [(li, .inr (1, [.ref a0, .ref a1, .ref a2, .ref a3, .ref a4, .ref a5, .ref a6, .ref a7, .ref a8, .int (nI ns)])), (a1, .inl (cI, 100, .inl fe)), (a8, .inl (cI, 100, .inl fc))]) [1, 2, 3] rfl) (hK.sub (tys' := [(cI, .int)]) [0] rfl) hN (ci := 1) rfl rfl rfl) rfl rfl hl.1 rfl (lv_room (Nat.le_of_ble_eq_true rfl)) d_Pa_claim_17 ⟨Nat.le_of_ble_eq_true rfl, Nat.le_of_ble_eq_true rfl⟩).run (fun r_17 h_17 => ?_)
      subst h_17
      refine lv_icmp_lt (tgt := 25) hx hb d_Pa_claim_20 (by decide) (fun c_20 => ?_) (fun c_20 => ?_)
      · obtain ⟨iy, hiy, rfl⟩ := pa_y_of (by omega) c_8 c_20
        refine lv_iconst (v := -1) hx hb d_Pa_claim_25 (by decide) ?_
        refine lv_istore_n (lv' := [(3, .int (-1)), (0, .ref xx), (1, .int x), (2, .int (nI iy))]) hx hb d_Pa_claim_26 rfl hl (by decide) rfl (fun ls hl => ?_)
        refine lv_iconst (v := 0) hx hb d_Pa_claim_27 (by decide) ?_
        refine lv_istore (lv' := [(4, .int 0), (3, .int (-1)), (0, .ref xx), (1, .int x), (2, .int (nI iy))]) hx hb d_Pa_claim_28 hl (by decide) rfl (fun ls hl => ?_)
        have loop_30 : ∀ (fu : Nat) (k : Nat) (pl : Option Nat), (k ≤ iy + 1) → (∀ j, pl = some j → j < ns) → (li_it ns fc fe x (iy + 1 - k) pl = li_it ns fc fe x (iy + 1) none) → iy + 1 - k < fu → ∀ (ls : Array Slot), lv_has ls 5 [(0, .ref xx), (1, .int x), (2, .int (nI iy)), (3, .int (pt_oi pl)), (4, .int (nI k))] → W p l e ({ frames := 4, cells := 0, slots := 0, locals := 89 }) s m ([.ref xx, .int x, .int (nI iy)] : List Value).toArray below meth c s.heap [] 0 0 Q0 (F0 m 30 ls []) := by
          intro fu
          induction fu with
          | zero => intro k pl h1 h2 hR hmu; exact absurd hmu (Nat.not_lt_zero _)
          | succ fu ih_30 =>
            intro k pl h1 h2 hR hmu ls hl
            refine lv_iload hx hb d_Pa_claim_30 (lv_at hl 4 rfl) ?_
            refine lv_iload_n hx hb d_Pa_claim_32 rfl (lv_at hl 2 rfl) ?_
            refine wy_icmp_gt (tgt := 52) hx hb k iy (by omega) (by omega) d_Pa_claim_33 (by decide) (fun c_33 => ?_) (fun c_33 => ?_)
            · refine lv_iload_n hx hb d_Pa_claim_52 rfl (lv_at hl 3 rfl) ?_
              rw [hQ]
              have z9 : (mo_day x && (decide (0 ≤ (nI iy)) && decide ((nI iy) < nI (li_cnt ns fc fe x ns 0 0)))) = true := by rw [c_4, decide_eq_true (Int32.not_lt.mp c_8), decide_eq_true c_20]; rfl
              have y9 : li_it ns fc fe x (iy + 1) none = pl := by rw [← hR]; exact li_it_0 c_33
              have q9 : (pt_oi pl : Int32) = cond (mo_day x && (decide (0 ≤ (nI iy)) && decide ((nI iy) < nI (li_cnt ns fc fe x ns 0 0)))) (pt_oi (li_it ns fc fe x ((nI iy).toNatClampNeg + 1) none)) (-1) := by rw [z9, nI_clamp (by omega), y9]; rfl
              exact W.iret (v := pt_oi pl) hx hb hr (fun t ht _ => ⟨_, rfl, q9, ht⟩) (fun _ h9 => by cases h9) d_Pa_claim_53
            · rcases pl with _ | jq
              · refine lv_aload_n hx hb d_Pa_claim_36 rfl (lv_at hl 0 rfl) ?_
                refine va_get (D := (dC, dI)) (ci := 4) (v := .ref li) (C := "PatternText") (T := F_Pa) (N := 6) hx hb hts iw_Pa hown hK hP 0 rfl rfl 3 (by decide) (hts _ kw_158) (fun _ h9 => h9) rfl d_Pa_claim_37 ?_
                refine lv_iload_n hx hb d_Pa_claim_40 rfl (lv_at hl 1 rfl) ?_
                refine lv_iload_n hx hb d_Pa_claim_41 rfl (lv_at hl 3 rfl) ?_
                refine vp_callSi (va_runV (As := [.int x, .int (-1)]) (rest := []) ⟨hx, hb, hml, hown, hts⟩ (c_Li_nextOverdue_n l dC dI li a0 a1 a2 a3 a4 a5 a6 a7 a8 ns cI fc fe x (by omega)) (cwV 2 hts (ga_V kw_460 kw_461 kw_462 kw_37 (ga_in kw_463)) rfl rfl rfl (by decide +kernel) ⟨Nat.le_of_ble_eq_true rfl, Nat.le_of_ble_eq_true rfl⟩) (wy_preV 0 (hP.sub (ws' := [(li, .inr (1, [.ref a0, .ref a1, .ref a2, .ref a3, .ref a4, .ref a5, .ref a6, .ref a7, .ref a8, .int (nI ns)])), (a1, .inl (cI, 100, .inl fe)), (a8, .inl (cI, 100, .inl fc))]) [1, 2, 3] rfl) (hK.sub (tys' := [(cI, .int)]) [0] rfl) hN (ci := 1) rfl rfl rfl) rfl rfl hl.1 rfl (lv_room (Nat.le_of_ble_eq_true rfl)) d_Pa_claim_42 ⟨Nat.le_of_ble_eq_true rfl, Nat.le_of_ble_eq_true rfl⟩).run (fun r_42 h_42 => ?_)
                subst h_42
                refine lv_istore_n (lv' := [(3, .int (pt_oi (li_nxt ns fc fe x (none) ns 0 none))), (0, .ref xx), (1, .int x), (2, .int (nI iy)), (4, .int (nI k))]) hx hb d_Pa_claim_45 rfl hl (by decide) rfl (fun ls hl => ?_)
                refine wy_iinc (x := k) (lv' := [(4, .int (nI (k + 1))), (3, .int (pt_oi (li_nxt ns fc fe x (none) ns 0 none))), (0, .ref xx), (1, .int x), (2, .int (nI iy))]) hx hb d_Pa_claim_46 hl (k := 4) rfl (by decide) rfl (fun ls hl => ?_)
                refine lv_goto (tgt := 30) hx hb d_Pa_claim_49 (by decide) ?_
                exact ih_30 (k + 1) (li_nxt ns fc fe x (none) ns 0 none) (by omega) (fun j hj => li_nxt_lt ns 0 none (fun z hz => by cases hz) j hj) ((li_it_go c_33).symm.trans hR) (by omega) ls (lv_sub hl [2, 3, 4, 1, 0] rfl)
              · have hjq := h2 jq rfl
                refine lv_aload_n hx hb d_Pa_claim_36 rfl (lv_at hl 0 rfl) ?_
                refine va_get (D := (dC, dI)) (ci := 4) (v := .ref li) (C := "PatternText") (T := F_Pa) (N := 6) hx hb hts iw_Pa hown hK hP 0 rfl rfl 3 (by decide) (hts _ kw_158) (fun _ h9 => h9) rfl d_Pa_claim_37 ?_
                refine lv_iload_n hx hb d_Pa_claim_40 rfl (lv_at hl 1 rfl) ?_
                refine lv_iload_n hx hb d_Pa_claim_41 rfl (lv_at hl 3 rfl) ?_
                refine vp_callSi (va_runV (As := [.int x, .int (nI jq)]) (rest := []) ⟨hx, hb, hml, hown, hts⟩ (c_Li_nextOverdue_s l dC dI li a0 a1 a2 a3 a4 a5 a6 a7 a8 ns cI fc fe x jq (by omega) (by omega)) (cwV 2 hts (ga_V kw_460 kw_461 kw_462 kw_37 (ga_in kw_463)) rfl rfl rfl (by decide +kernel) ⟨Nat.le_of_ble_eq_true rfl, Nat.le_of_ble_eq_true rfl⟩) (wy_preV 0 (hP.sub (ws' := [(li, .inr (1, [.ref a0, .ref a1, .ref a2, .ref a3, .ref a4, .ref a5, .ref a6, .ref a7, .ref a8, .int (nI ns)])), (a1, .inl (cI, 100, .inl fe)), (a8, .inl (cI, 100, .inl fc))]) [1, 2, 3] rfl) (hK.sub (tys' := [(cI, .int)]) [0] rfl) hN (ci := 1) rfl rfl rfl) rfl rfl hl.1 rfl (lv_room (Nat.le_of_ble_eq_true rfl)) d_Pa_claim_42 ⟨Nat.le_of_ble_eq_true rfl, Nat.le_of_ble_eq_true rfl⟩).run (fun r_42 h_42 => ?_)
                subst h_42
                refine lv_istore_n (lv' := [(3, .int (pt_oi (li_nxt ns fc fe x (some jq) ns 0 none))), (0, .ref xx), (1, .int x), (2, .int (nI iy)), (4, .int (nI k))]) hx hb d_Pa_claim_45 rfl hl (by decide) rfl (fun ls hl => ?_)
                refine wy_iinc (x := k) (lv' := [(4, .int (nI (k + 1))), (3, .int (pt_oi (li_nxt ns fc fe x (some jq) ns 0 none))), (0, .ref xx), (1, .int x), (2, .int (nI iy))]) hx hb d_Pa_claim_46 hl (k := 4) rfl (by decide) rfl (fun ls hl => ?_)
                refine lv_goto (tgt := 30) hx hb d_Pa_claim_49 (by decide) ?_
                exact ih_30 (k + 1) (li_nxt ns fc fe x (some jq) ns 0 none) (by omega) (fun j hj => li_nxt_lt ns 0 none (fun z hz => by cases hz) j hj) ((li_it_go c_33).symm.trans hR) (by omega) ls (lv_sub hl [2, 3, 4, 1, 0] rfl)
        exact loop_30 _ 0 none (by omega) (fun j hj => by cases hj) (rfl) (Nat.lt_succ_self _) ls (lv_sub hl [2, 3, 4, 1, 0] rfl)
      · refine lv_iconst (v := -1) hx hb d_Pa_claim_23 (by decide) ?_
        rw [hQ]
        have z9 : (mo_day x && (decide (0 ≤ y) && decide (y < nI (li_cnt ns fc fe x ns 0 0)))) = false := by rw [decide_eq_false c_20, Bool.and_false, Bool.and_false]
        have q9 : ((-1) : Int32) = cond (mo_day x && (decide (0 ≤ y) && decide (y < nI (li_cnt ns fc fe x ns 0 0)))) (pt_oi (li_it ns fc fe x (y.toNatClampNeg + 1) none)) (-1) := by rw [z9]; rfl
        exact W.iret (v := (-1)) hx hb hr (fun t ht _ => ⟨_, rfl, q9, ht⟩) (fun _ h9 => by cases h9) d_Pa_claim_24
