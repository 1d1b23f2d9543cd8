set_option maxHeartbeats 4000000 in
set_option maxRecDepth 100000 in
theorem c_Js_coder (l : Launch) (dC : Nat → ClassId) (dI : Nat → Nat → Nat) (ad : Nat → Nat) (av : Nat → Nat) (A : Nat → Prop) (i : Nat) (hi : i < 8) : Met l y_Js_coder w_Js_coder ({ frames := 0, cells := 0, slots := 0, locals := 0 }) (va_Pc [.ref (ad i)] (wy_RE (dC, dI) ga_cl [] [] ad av A)) (vp_Si (fun r => r = 0)) 0 0 (fun _ => False) := by
  refine Met.ofW (cc := b_Js_coder) (maxL := 1) (ret := (some .byte)) (by decide) rfl ?_
  intro p e s m args below meth c s₁ B hml hv
  obtain ⟨rfl, hP, hK, hN, hE⟩ := hv
  have hx := B.exec
  have hb := B.bytes
  have hr := B.returns
  have hts : ∀ w ∈ ga_tbl, w.before _ s = true := fun w h => atoms_spec (ws := w_Js_coder) B.pre w (List.mem_cons_of_mem _ h)
  have hown : s.vm.findClass "java/lang/String" = some m.cls := findClass_of_methodNamed B.named
  have hlocks := B.notSynchronized
  have hS : va_S A s.heap s.heap [] := va_S.rf
  have hl := lv_entry ([.ref (ad i)]) (n := 1) (Nat.le_of_ble_eq_true rfl)
  rw [lg_entry_eq]
  generalize (lg_sl ([.ref (ad i)]) ++ List.replicate (1 - (lg_sl ([.ref (ad i)])).length) Slot.unset).toArray = ls at hl ⊢
  have hl : lv_has ls 1 [(0, .ref (ad i))] := hl
  refine va_gets hx hb hE.1 hS hown (hts _ kw_207) (fun _ h9 => h9) d_Js_coder_0 ?_
  refine lv_if_eq (tgt := 13) hx hb d_Js_coder_3 (by decide) (fun z9 => absurd z9 (by decide)) (fun _ => ?_)
  refine lv_aload_n hx hb d_Js_coder_6 rfl (lv_at hl 0 rfl) ?_
  refine vk_getf hx hb (hE.2.2 i hi).1.2.1 hS hown (hts _ kw_786) (fun _ h9 => h9) d_Js_coder_7 ?_
  refine lv_goto (tgt := 14) hx hb d_Js_coder_10 (by decide) ?_
  have q9 : (0 : Int32) = 0 := by rfl
  exact W.zret (v := 0) hx hb hr rfl (fun t ht _ => ⟨_, rfl, q9, ht⟩) (fun _ h9 => by cases h9) d_Js_coder_14

set_option maxHeartbeats 4000000 in
set_option maxRecDepth 100000 in
theorem c_Js_length (l : Launch) (dC : Nat → ClassId) (dI : Nat → Nat → Nat) (ad : Nat → Nat) (av : Nat → Nat) (A : Nat → Prop) (i : Nat) (hi : i < 8) : Met l y_Js_length w_Js_length ({ frames := 1, cells := 0, slots := 0, locals := 20 }) (va_Pc [.ref (ad i)] (wy_RE (dC, dI) ga_cl [] [] ad av A)) (vp_Si (fun r => r = nI (sv_len i))) 0 0 (fun _ => False) := by
  refine Met.ofW (cc := b_Js_length) (maxL := 1) (ret := (some .int)) (by decide) rfl ?_
  intro p e s m args below meth c s₁ B hml hv
  obtain ⟨rfl, hP, hK, hN, hE⟩ := hv
  have hx := B.exec
  have hb := B.bytes
  have hr := B.returns
  have hts : ∀ w ∈ ga_tbl, w.before _ s = true := fun w h => atoms_spec (ws := w_Js_length) B.pre w (List.mem_cons_of_mem _ h)
  have hown : s.vm.findClass "java/lang/String" = some m.cls := findClass_of_methodNamed B.named
  have hlocks := B.notSynchronized
  have hS : va_S A s.heap s.heap [] := va_S.rf
  have hl := lv_entry ([.ref (ad i)]) (n := 1) (Nat.le_of_ble_eq_true rfl)
  rw [lg_entry_eq]
  generalize (lg_sl ([.ref (ad i)]) ++ List.replicate (1 - (lg_sl ([.ref (ad i)])).length) Slot.unset).toArray = ls at hl ⊢
  have hl : lv_has ls 1 [(0, .ref (ad i))] := hl
  refine lv_aload_n hx hb d_Js_length_0 rfl (lv_at hl 0 rfl) ?_
  refine vk_getf hx hb (hE.2.2 i hi).1.2.2.1 hS hown (hts _ kw_785) (fun _ h9 => h9) d_Js_length_1 ?_
  refine va_tlen (v := nI (sv_len i)) hx hb (hE.2.2 i hi).1.2.2.2 hS rfl d_Js_length_4 ?_
  refine lv_aload_n hx hb d_Js_length_5 rfl (lv_at hl 0 rfl) ?_
  refine vp_callSi (va_runV (As := []) (rest := [.int (nI (sv_len i))]) ⟨hx, hb, hml, hown, hts⟩ (c_Js_coder l dC dI ad av A i (hi)) (cwV 0 hts (ga_V kw_203 kw_204 kw_205 kw_39 (ga_in kw_206)) rfl rfl rfl (by decide +kernel) ⟨Nat.le_of_ble_eq_true rfl, Nat.le_of_ble_eq_true rfl⟩) (wy_preTE i (hi) (hP.sub (ws' := []) [] rfl) (hK.sub (tys' := []) [] rfl) hN hE hS) rfl rfl hl.1 rfl (lv_room (Nat.le_of_ble_eq_true rfl)) d_Js_length_6 ⟨Nat.le_of_ble_eq_true rfl, Nat.le_of_ble_eq_true rfl⟩).run (fun r_6 h_6 => ?_)
  subst h_6
  refine lv_ishr hx hb d_Js_length_9 ?_
  refine wy_cvi (y := nI (sv_len i)) (sb_shr0 _) ?_
  have q9 : (nI (sv_len i) : Int32) = nI (sv_len i) := by rfl
  exact W.iret (v := nI (sv_len i)) hx hb hr (fun t ht _ => ⟨_, rfl, q9, ht⟩) (fun _ h9 => by cases h9) d_Js_length_10

set_option maxHeartbeats 4000000 in
set_option maxRecDepth 100000 in
theorem c_Js_isLatin1 (l : Launch) (dC : Nat → ClassId) (dI : Nat → Nat → Nat) (ad : Nat → Nat) (av : Nat → Nat) (A : Nat → Prop) (i : Nat) (hi : i < 8) : Met l y_Js_isLatin1 w_Js_isLatin1 ({ frames := 0, cells := 0, slots := 0, locals := 0 }) (va_Pc [.ref (ad i)] (wy_RE (dC, dI) ga_cl [] [] ad av A)) (vp_Si (fun r => r = bo_I true)) 0 0 (fun _ => False) := by
  refine Met.ofW (cc := b_Js_isLatin1) (maxL := 1) (ret := (some .boolean)) (by decide) rfl ?_
  intro p e s m args below meth c s₁ B hml hv
  obtain ⟨rfl, hP, hK, hN, hE⟩ := hv
  have hx := B.exec
  have hb := B.bytes
  have hr := B.returns
  have hts : ∀ w ∈ ga_tbl, w.before _ s = true := fun w h => atoms_spec (ws := w_Js_isLatin1) B.pre w (List.mem_cons_of_mem _ h)
  have hown : s.vm.findClass "java/lang/String" = some m.cls := findClass_of_methodNamed B.named
  have hlocks := B.notSynchronized
  have hS : va_S A s.heap s.heap [] := va_S.rf
  have hl := lv_entry ([.ref (ad i)]) (n := 1) (Nat.le_of_ble_eq_true rfl)
  rw [lg_entry_eq]
  generalize (lg_sl ([.ref (ad i)]) ++ List.replicate (1 - (lg_sl ([.ref (ad i)])).length) Slot.unset).toArray = ls at hl ⊢
  have hl : lv_has ls 1 [(0, .ref (ad i))] := hl
  refine va_gets hx hb hE.1 hS hown (hts _ kw_207) (fun _ h9 => h9) d_Js_isLatin1_0 ?_
  refine lv_if_eq (tgt := 17) hx hb d_Js_isLatin1_3 (by decide) (fun z9 => absurd z9 (by decide)) (fun _ => ?_)
  refine lv_aload_n hx hb d_Js_isLatin1_6 rfl (lv_at hl 0 rfl) ?_
  refine vk_getf hx hb (hE.2.2 i hi).1.2.1 hS hown (hts _ kw_786) (fun _ h9 => h9) d_Js_isLatin1_7 ?_
  refine lv_if_ne (tgt := 17) hx hb d_Js_isLatin1_10 (by decide) (fun z9 => absurd z9 (by decide)) (fun _ => ?_)
  refine lv_iconst (v := 1) hx hb d_Js_isLatin1_13 (by decide) ?_
  refine lv_goto (tgt := 18) hx hb d_Js_isLatin1_14 (by decide) ?_
  have q9 : (1 : Int32) = bo_I true := by rfl
  exact W.zret (v := 1) hx hb hr rfl (fun t ht _ => ⟨_, rfl, q9, ht⟩) (fun _ h9 => by cases h9) d_Js_isLatin1_18

set_option maxHeartbeats 4000000 in
set_option maxRecDepth 100000 in
theorem c_Jp_check_n (l : Launch) (dC : Nat → ClassId) (dI : Nat → Nat → Nat) (ad : Nat → Nat) (av : Nat → Nat) (A : Nat → Prop) (k : Nat) (n : Nat) (hk : k < n) (hn : n < 2 ^ 31) : Met l y_Jp_checkIndex w_Jp_checkIndex ({ frames := 0, cells := 0, slots := 0, locals := 0 }) (va_Pc [.int (nI k), .int (nI n), .null] (wy_RE (dC, dI) ga_cl [] [] ad av A)) (vp_Si (fun r => r = nI k)) 0 0 (fun _ => False) := by
  refine Met.ofW (cc := b_Jp_checkIndex) (maxL := 3) (ret := (some .int)) (by decide) rfl ?_
  intro p e s m args below meth c s₁ B hml hv
  obtain ⟨rfl, hP, hK, hN, hE⟩ := hv
  have hx := B.exec
  have hb := B.bytes
  have hr := B.returns
  have hts : ∀ w ∈ ga_tbl, w.before _ s = true := fun w h => atoms_spec (ws := w_Jp_checkIndex) B.pre w (List.mem_cons_of_mem _ h)
  have hown : s.vm.findClass "jdk/internal/util/Preconditions" = some m.cls := findClass_of_methodNamed B.named
  have hlocks := B.notSynchronized
  have hS : va_S A s.heap s.heap [] := va_S.rf
  have hl := lv_entry ([.int (nI k), .int (nI n), .null]) (n := 3) (Nat.le_of_ble_eq_true rfl)
  rw [lg_entry_eq]
  generalize (lg_sl ([.int (nI k), .int (nI n), .null]) ++ List.replicate (3 - (lg_sl ([.int (nI k), .int (nI n), .null])).length) Slot.unset).toArray = ls at hl ⊢
  have hl : lv_has ls 3 [(0, .int (nI k)), (1, .int (nI n)), (2, .null)] := hl
  refine lv_iload_n hx hb d_Jp_checkIndex_0 rfl (lv_at hl 0 rfl) ?_
  refine wy_ifltN (tgt := 9) hx hb k (by omega) d_Jp_checkIndex_1 (by decide) ?_
  refine lv_iload_n hx hb d_Jp_checkIndex_4 rfl (lv_at hl 0 rfl) ?_
  refine lv_iload_n hx hb d_Jp_checkIndex_5 rfl (lv_at hl 1 rfl) ?_
  refine wy_icmp_lt (tgt := 16) hx hb k n (by omega) (by omega) d_Jp_checkIndex_6 (by decide) (fun c_6 => ?_) (fun c_6 => ?_)
  · refine lv_iload_n hx hb d_Jp_checkIndex_16 rfl (lv_at hl 0 rfl) ?_
    have q9 : (nI k : Int32) = nI k := by rfl
    exact W.iret (v := nI k) hx hb hr (fun t ht _ => ⟨_, rfl, q9, ht⟩) (fun _ h9 => by cases h9) d_Jp_checkIndex_17
  · exact absurd hk (by omega)

set_option maxHeartbeats 4000000 in
set_option maxRecDepth 100000 in
theorem c_Jp_check_s (l : Launch) (dC : Nat → ClassId) (dI : Nat → Nat → Nat) (ad : Nat → Nat) (av : Nat → Nat) (A : Nat → Prop) (k : Nat) (n : Nat) (zz : Nat) (hk : k < n) (hn : n < 2 ^ 31) : Met l y_Jp_checkIndex w_Jp_checkIndex ({ frames := 0, cells := 0, slots := 0, locals := 0 }) (va_Pc [.int (nI k), .int (nI n), .ref zz] (wy_RE (dC, dI) ga_cl [] [] ad av A)) (vp_Si (fun r => r = nI k)) 0 0 (fun _ => False) := by
  refine Met.ofW (cc := b_Jp_checkIndex) (maxL := 3) (ret := (some .int)) (by decide) rfl ?_
  intro p e s m args below meth c s₁ B hml hv
  obtain ⟨rfl, hP, hK, hN, hE⟩ := hv
  have hx := B.exec
  have hb := B.bytes
  have hr := B.returns
  have hts : ∀ w ∈ ga_tbl, w.before _ s = true := fun w h => atoms_spec (ws := w_Jp_checkIndex) B.pre w (List.mem_cons_of_mem _ h)
  have hown : s.vm.findClass "jdk/internal/util/Preconditions" = some m.cls := findClass_of_methodNamed B.named
  have hlocks := B.notSynchronized
  have hS : va_S A s.heap s.heap [] := va_S.rf
  have hl := lv_entry ([.int (nI k), .int (nI n), .ref zz]) (n := 3) (Nat.le_of_ble_eq_true rfl)
  rw [lg_entry_eq]
  generalize (lg_sl ([.int (nI k), .int (nI n), .ref zz]) ++ List.replicate (3 - (lg_sl ([.int (nI k), .int (nI n), .ref zz])).length) Slot.unset).toArray = ls at hl ⊢
  have hl : lv_has ls 3 [(0, .int (nI k)), (1, .int (nI n)), (2, .ref zz)] := hl
  refine lv_iload_n hx hb d_Jp_checkIndex_0 rfl (lv_at hl 0 rfl) ?_
  refine wy_ifltN (tgt := 9) hx hb k (by omega) d_Jp_checkIndex_1 (by decide) ?_
  refine lv_iload_n hx hb d_Jp_checkIndex_4 rfl (lv_at hl 0 rfl) ?_
  refine lv_iload_n hx hb d_Jp_checkIndex_5 rfl (lv_at hl 1 rfl) ?_
  refine wy_icmp_lt (tgt := 16) hx hb k n (by omega) (by omega) d_Jp_checkIndex_6 (by decide) (fun c_6 => ?_) (fun c_6 => ?_)
  · refine lv_iload_n hx hb d_Jp_checkIndex_16 rfl (lv_at hl 0 rfl) ?_
    have q9 : (nI k : Int32) = nI k := by rfl
    exact W.iret (v := nI k) hx hb hr (fun t ht _ => ⟨_, rfl, q9, ht⟩) (fun _ h9 => by cases h9) d_Jp_checkIndex_17
  · exact absurd hk (by omega)

set_option maxHeartbeats 4000000 in
set_option maxRecDepth 100000 in
theorem c_Js_checkIndex (l : Launch) (dC : Nat → ClassId) (dI : Nat → Nat → Nat) (ad : Nat → Nat) (av : Nat → Nat) (A : Nat → Prop) (k : Nat) (n : Nat) (hk : k < n) (hn : n < 2 ^ 31) : Met l y_Js_checkIndex w_Js_checkIndex ({ frames := 1, cells := 0, slots := 0, locals := 22 }) (va_Pc [.int (nI k), .int (nI n)] (wy_RE (dC, dI) ga_cl [] [] ad av A)) (va_Sv (fun _ => True)) 0 0 (fun _ => False) := by
  refine Met.ofW (cc := b_Js_checkIndex) (maxL := 2) (ret := none) (by decide) rfl ?_
  intro p e s m args below meth c s₁ B hml hv
  obtain ⟨rfl, hP, hK, hN, hE⟩ := hv
  have hx := B.exec
  have hb := B.bytes
  have hr := B.returns
  have hts : ∀ w ∈ ga_tbl, w.before _ s = true := fun w h => atoms_spec (ws := w_Js_checkIndex) B.pre w (List.mem_cons_of_mem _ h)
  have hown : s.vm.findClass "java/lang/String" = some m.cls := findClass_of_methodNamed B.named
  have hlocks := B.notSynchronized
  have hS : va_S A s.heap s.heap [] := va_S.rf
  have hl := lv_entry ([.int (nI k), .int (nI n)]) (n := 2) (Nat.le_of_ble_eq_true rfl)
  rw [lg_entry_eq]
  generalize (lg_sl ([.int (nI k), .int (nI n)]) ++ List.replicate (2 - (lg_sl ([.int (nI k), .int (nI n)])).length) Slot.unset).toArray = ls at hl ⊢
  have hl : lv_has ls 2 [(0, .int (nI k)), (1, .int (nI n))] := hl
  refine lv_iload_n hx hb d_Js_checkIndex_0 rfl (lv_at hl 0 rfl) ?_
  refine lv_iload_n hx hb d_Js_checkIndex_1 rfl (lv_at hl 1 rfl) ?_
  rcases hE.2.1 with hz_2 | ⟨zt, hz_2⟩
  · refine va_gets hx hb hz_2 hS hown (hts _ kw_230) (fun _ h9 => h9) d_Js_checkIndex_2 ?_
    refine vp_callSi (va_runS (As := [.int (nI k), .int (nI n), .null]) (rest := []) ⟨hx, hb, hml, hown, hts⟩ (c_Jp_check_n l dC dI ad av A k n (by omega) (by omega)) (va_cwS 3 hts (ga_T kw_232 kw_233 kw_41 (ga_in kw_234)) rfl rfl rfl (by decide +kernel) ⟨Nat.le_of_ble_eq_true rfl, Nat.le_of_ble_eq_true rfl⟩) (wy_preSE (hP.sub (ws' := []) [] rfl) (hK.sub (tys' := []) [] rfl) hN hE hS) rfl rfl hl.1 rfl (lv_room (Nat.le_of_ble_eq_true rfl)) d_Js_checkIndex_5 ⟨Nat.le_of_ble_eq_true rfl, Nat.le_of_ble_eq_true rfl⟩).run (fun r_5 h_5 => ?_)
    subst h_5
    refine lv_pop hx hb d_Js_checkIndex_8 rfl ?_
    exact W.vret hx hb hr (fun t ht _ => ⟨rfl, trivial, ht⟩) (fun _ h9 => by cases h9) d_Js_checkIndex_9
  · refine va_gets hx hb hz_2 hS hown (hts _ kw_230) (fun _ h9 => h9) d_Js_checkIndex_2 ?_
    refine vp_callSi (va_runS (As := [.int (nI k), .int (nI n), .ref zt]) (rest := []) ⟨hx, hb, hml, hown, hts⟩ (c_Jp_check_s l dC dI ad av A k n zt (by omega) (by omega)) (va_cwS 3 hts (ga_T kw_232 kw_233 kw_41 (ga_in kw_234)) rfl rfl rfl (by decide +kernel) ⟨Nat.le_of_ble_eq_true rfl, Nat.le_of_ble_eq_true rfl⟩) (wy_preSE (hP.sub (ws' := []) [] rfl) (hK.sub (tys' := []) [] rfl) hN hE hS) rfl rfl hl.1 rfl (lv_room (Nat.le_of_ble_eq_true rfl)) d_Js_checkIndex_5 ⟨Nat.le_of_ble_eq_true rfl, Nat.le_of_ble_eq_true rfl⟩).run (fun r_5 h_5 => ?_)
    subst h_5
    refine lv_pop hx hb d_Js_checkIndex_8 rfl ?_
    exact W.vret hx hb hr (fun t ht _ => ⟨rfl, trivial, ht⟩) (fun _ h9 => by cases h9) d_Js_checkIndex_9

set_option maxHeartbeats 4000000 in
set_option maxRecDepth 100000 in
theorem c_Jl_charAt (l : Launch) (dC : Nat → ClassId) (dI : Nat → Nat → Nat) (ad : Nat → Nat) (av : Nat → Nat) (A : Nat → Prop) (i : Nat) (k : Nat) (hi : i < 8) (hk : k < sv_len i) : Met l y_Jl_charAt w_Jl_charAt ({ frames := 2, cells := 0, slots := 0, locals := 43 }) (va_Pc [.ref (av i), .int (nI k)] (wy_RE (dC, dI) ga_cl [] [] ad av A)) (vp_Si (fun r => r = sv_w i k)) 0 0 (fun _ => False) := by
  refine Met.ofW (cc := b_Jl_charAt) (maxL := 2) (ret := (some .char)) (by decide) rfl ?_
  intro p e s m args below meth c s₁ B hml hv
  obtain ⟨rfl, hP, hK, hN, hE⟩ := hv
  have hx := B.exec
  have hb := B.bytes
  have hr := B.returns
  have hts : ∀ w ∈ ga_tbl, w.before _ s = true := fun w h => atoms_spec (ws := w_Jl_charAt) B.pre w (List.mem_cons_of_mem _ h)
  have hown : s.vm.findClass "java/lang/StringLatin1" = some m.cls := findClass_of_methodNamed B.named
  have hlocks := B.notSynchronized
  have hS : va_S A s.heap s.heap [] := va_S.rf
  have hl := lv_entry ([.ref (av i), .int (nI k)]) (n := 2) (Nat.le_of_ble_eq_true rfl)
  rw [lg_entry_eq]
  generalize (lg_sl ([.ref (av i), .int (nI k)]) ++ List.replicate (2 - (lg_sl ([.ref (av i), .int (nI k)])).length) Slot.unset).toArray = ls at hl ⊢
  have hl : lv_has ls 2 [(0, .ref (av i)), (1, .int (nI k))] := hl
  have h7 := sv_len_le i
  refine lv_iload_n hx hb d_Jl_charAt_0 rfl (lv_at hl 1 rfl) ?_
  refine lv_aload_n hx hb d_Jl_charAt_1 rfl (lv_at hl 0 rfl) ?_
  refine va_tlen (v := nI (sv_len i)) hx hb (hE.2.2 i hi).1.2.2.2 hS rfl d_Jl_charAt_2 ?_
  refine va_csv (va_runS (As := [.int (nI k), .int (nI (sv_len i))]) (rest := []) ⟨hx, hb, hml, hown, hts⟩ (c_Js_checkIndex l dC dI ad av A k (sv_len i) (by omega) (by omega)) (va_cwS 2 hts (ga_T kw_227 kw_228 kw_39 (ga_in kw_229)) rfl rfl rfl (by decide +kernel) ⟨Nat.le_of_ble_eq_true rfl, Nat.le_of_ble_eq_true rfl⟩) (wy_preSE (hP.sub (ws' := []) [] rfl) (hK.sub (tys' := []) [] rfl) hN hE hS) rfl rfl hl.1 rfl (lv_room (Nat.le_of_ble_eq_true rfl)) d_Jl_charAt_3 ⟨Nat.le_of_ble_eq_true rfl, Nat.le_of_ble_eq_true rfl⟩).run (fun _ => ?_)
  refine lv_aload_n hx hb d_Jl_charAt_6 rfl (lv_at hl 0 rfl) ?_
  refine lv_iload_n hx hb d_Jl_charAt_7 rfl (lv_at hl 1 rfl) ?_
  refine va_tb (v := .int (sv_w i k)) hx hb (hE.2.2 i hi).1.2.2.2 hS (vp_in_nI (by omega) (by omega)) (by rw [nI_clamp (by omega)]) d_Jl_charAt_8 ?_
  refine lv_sipush (v := 255) hx hb d_Jl_charAt_9 (by decide) ?_
  refine lv_iand hx hb d_Jl_charAt_12 ?_
  refine wy_cvi (y := sv_w i k) (sv_and i k) ?_
  refine lv_i2c (v := sv_w i k) hx hb d_Jl_charAt_13 (sv_chr i k) ?_
  have q9 : (sv_w i k : Int32) = sv_w i k := by rfl
  exact W.zret (v := sv_w i k) hx hb hr (sv_nar i k) (fun t ht _ => ⟨_, rfl, q9, ht⟩) (fun _ h9 => by cases h9) d_Jl_charAt_14

set_option maxHeartbeats 4000000 in
set_option maxRecDepth 100000 in
theorem c_Js_charAt (l : Launch) (dC : Nat → ClassId) (dI : Nat → Nat → Nat) (ad : Nat → Nat) (av : Nat → Nat) (A : Nat → Prop) (i : Nat) (k : Nat) (hi : i < 8) (hk : k < sv_len i) : Met l y_Js_charAt w_Js_charAt ({ frames := 3, cells := 0, slots := 0, locals := 64 }) (va_Pc [.ref (ad i), .int (nI k)] (wy_RE (dC, dI) ga_cl [] [] ad av A)) (vp_Si (fun r => r = sv_w i k)) 0 0 (fun _ => False) := by
  refine Met.ofW (cc := b_Js_charAt) (maxL := 2) (ret := (some .char)) (by decide) rfl ?_
  intro p e s m args below meth c s₁ B hml hv
  obtain ⟨rfl, hP, hK, hN, hE⟩ := hv
  have hx := B.exec
  have hb := B.bytes
  have hr := B.returns
  have hts : ∀ w ∈ ga_tbl, w.before _ s = true := fun w h => atoms_spec (ws := w_Js_charAt) B.pre w (List.mem_cons_of_mem _ h)
  have hown : s.vm.findClass "java/lang/String" = some m.cls := findClass_of_methodNamed B.named
  have hlocks := B.notSynchronized
  have hS : va_S A s.heap s.heap [] := va_S.rf
  have hl := lv_entry ([.ref (ad i), .int (nI k)]) (n := 2) (Nat.le_of_ble_eq_true rfl)
  rw [lg_entry_eq]
  generalize (lg_sl ([.ref (ad i), .int (nI k)]) ++ List.replicate (2 - (lg_sl ([.ref (ad i), .int (nI k)])).length) Slot.unset).toArray = ls at hl ⊢
  have hl : lv_has ls 2 [(0, .ref (ad i)), (1, .int (nI k))] := hl
  have h7 := sv_len_le i
  refine lv_aload_n hx hb d_Js_charAt_0 rfl (lv_at hl 0 rfl) ?_
  refine vp_callSi (va_runV (As := []) (rest := []) ⟨hx, hb, hml, hown, hts⟩ (c_Js_isLatin1 l dC dI ad av A i (hi)) (cwV 0 hts (ga_V kw_220 kw_221 kw_222 kw_39 (ga_in kw_223)) rfl rfl rfl (by decide +kernel) ⟨Nat.le_of_ble_eq_true rfl, Nat.le_of_ble_eq_true rfl⟩) (wy_preTE i (hi) (hP.sub (ws' := []) [] rfl) (hK.sub (tys' := []) [] rfl) hN hE hS) rfl rfl hl.1 rfl (lv_room (Nat.le_of_ble_eq_true rfl)) d_Js_charAt_1 ⟨Nat.le_of_ble_eq_true rfl, Nat.le_of_ble_eq_true rfl⟩).run (fun r_1 h_1 => ?_)
  subst h_1
  refine wy_ifeqB (tgt := 16) hx hb d_Js_charAt_4 (by decide) (fun c_4 => ?_) (fun c_4 => ?_)
  · exact absurd c_4 (by decide)
  · refine lv_aload_n hx hb d_Js_charAt_7 rfl (lv_at hl 0 rfl) ?_
    refine vk_getf hx hb (hE.2.2 i hi).1.2.2.1 hS hown (hts _ kw_785) (fun _ h9 => h9) d_Js_charAt_8 ?_
    refine lv_iload_n hx hb d_Js_charAt_11 rfl (lv_at hl 1 rfl) ?_
    refine vp_callSi (va_runS (As := [.ref (av i), .int (nI k)]) (rest := []) ⟨hx, hb, hml, hown, hts⟩ (c_Jl_charAt l dC dI ad av A i k (hi) (by omega)) (va_cwS 2 hts (ga_T kw_224 kw_225 kw_40 (ga_in kw_226)) rfl rfl rfl (by decide +kernel) ⟨Nat.le_of_ble_eq_true rfl, Nat.le_of_ble_eq_true rfl⟩) (wy_preSE (hP.sub (ws' := []) [] rfl) (hK.sub (tys' := []) [] rfl) hN hE hS) rfl rfl hl.1 rfl (lv_room (Nat.le_of_ble_eq_true rfl)) d_Js_charAt_12 ⟨Nat.le_of_ble_eq_true rfl, Nat.le_of_ble_eq_true rfl⟩).run (fun r_12 h_12 => ?_)
    subst h_12
    have q9 : (sv_w i k : Int32) = sv_w i k := by rfl
    exact W.zret (v := sv_w i k) hx hb hr (sv_nar i k) (fun t ht _ => ⟨_, rfl, q9, ht⟩) (fun _ h9 => by cases h9) d_Js_charAt_15
