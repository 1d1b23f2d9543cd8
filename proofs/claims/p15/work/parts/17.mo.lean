set_option maxHeartbeats 4000000 in
set_option maxRecDepth 100000 in
theorem c_Mo_isDigit (l : Launch) (dC : Nat → ClassId) (dI : Nat → Nat → Nat) (x : Int32) : Met l y_Mo_isDigit w_Mo_isDigit ({ frames := 0, cells := 0, slots := 0, locals := 0 }) (va_Pc [.int x] (wy_R (dC, dI) ga_cl [] [])) (vp_Si (fun r => r = bo_I (rd_dig x))) 0 0 (fun _ => False) := by
  refine Met.ofW (cc := b_Mo_isDigit) (maxL := 1) (ret := (some .boolean)) (by decide) rfl ?_
  intro p e s m args below meth c s₁ B hml hv
  obtain ⟨rfl, hP, hK, hN⟩ := hv
  have hx := B.exec
  have hb := B.bytes
  have hr := B.returns
  have hts : ∀ w ∈ ga_tbl, w.before _ s = true := fun w h => atoms_spec (ws := w_Mo_isDigit) B.pre w (List.mem_cons_of_mem _ h)
  have hown : s.vm.findClass "PatternTextModel" = some m.cls := findClass_of_methodNamed B.named
  have hlocks := B.notSynchronized
  have hl := lv_entry ([.int x]) (n := 1) (Nat.le_of_ble_eq_true rfl)
  rw [lg_entry_eq]
  generalize (lg_sl ([.int x]) ++ List.replicate (1 - (lg_sl ([.int x])).length) Slot.unset).toArray = ls at hl ⊢
  have hl : lv_has ls 1 [(0, .int x)] := hl
  refine lv_iload_n hx hb d_Mo_isDigit_0 rfl (lv_at hl 0 rfl) ?_
  refine lv_bipush (v := 48) hx hb d_Mo_isDigit_1 (by decide) ?_
  refine lv_icmp_lt (tgt := 16) hx hb d_Mo_isDigit_3 (by decide) (fun c_3 => ?_) (fun c_3 => ?_)
  · refine lv_iconst (v := 0) hx hb d_Mo_isDigit_16 (by decide) ?_
    have z9 : rd_dig x = false := by simp only [rd_dig, Bool.or_eq_false_iff, Bool.and_eq_false_iff, decide_eq_false_iff_not, Int32.le_iff_toInt_le, Int32.lt_iff_toInt_lt, Int32.reduceToInt] at *; omega
    have q9 : (0 : Int32) = bo_I (rd_dig x) := by rw [z9]; rfl
    exact W.zret (v := 0) hx hb hr rfl (fun t ht _ => ⟨_, rfl, q9, ht⟩) (fun _ h9 => by cases h9) d_Mo_isDigit_17
  · refine lv_iload_n hx hb d_Mo_isDigit_6 rfl (lv_at hl 0 rfl) ?_
    refine lv_bipush (v := 57) hx hb d_Mo_isDigit_7 (by decide) ?_
    refine lv_icmp_gt (tgt := 16) hx hb d_Mo_isDigit_9 (by decide) (fun c_9 => ?_) (fun c_9 => ?_)
    · refine lv_iconst (v := 0) hx hb d_Mo_isDigit_16 (by decide) ?_
      have z9 : rd_dig x = false := by simp only [rd_dig, Bool.or_eq_false_iff, Bool.and_eq_false_iff, decide_eq_false_iff_not, Int32.le_iff_toInt_le, Int32.lt_iff_toInt_lt, Int32.reduceToInt] at *; omega
      have q9 : (0 : Int32) = bo_I (rd_dig x) := by rw [z9]; rfl
      exact W.zret (v := 0) hx hb hr rfl (fun t ht _ => ⟨_, rfl, q9, ht⟩) (fun _ h9 => by cases h9) d_Mo_isDigit_17
    · refine lv_iconst (v := 1) hx hb d_Mo_isDigit_12 (by decide) ?_
      refine lv_goto (tgt := 17) hx hb d_Mo_isDigit_13 (by decide) ?_
      have z9 : rd_dig x = true := by simp only [rd_dig, Bool.or_eq_true, Bool.and_eq_true, decide_eq_true_eq, Int32.le_iff_toInt_le, Int32.lt_iff_toInt_lt, Int32.reduceToInt] at *; omega
      have q9 : (1 : Int32) = bo_I (rd_dig x) := by rw [z9]; rfl
      exact W.zret (v := 1) hx hb hr rfl (fun t ht _ => ⟨_, rfl, q9, ht⟩) (fun _ h9 => by cases h9) d_Mo_isDigit_17

set_option maxHeartbeats 4000000 in
set_option maxRecDepth 100000 in
theorem c_Mo_isLetter (l : Launch) (dC : Nat → ClassId) (dI : Nat → Nat → Nat) (x : Int32) : Met l y_Mo_isLetter w_Mo_isLetter ({ frames := 0, cells := 0, slots := 0, locals := 0 }) (va_Pc [.int x] (wy_R (dC, dI) ga_cl [] [])) (vp_Si (fun r => r = bo_I (mo_let x))) 0 0 (fun _ => False) := by
  refine Met.ofW (cc := b_Mo_isLetter) (maxL := 1) (ret := (some .boolean)) (by decide) rfl ?_
  intro p e s m args below meth c s₁ B hml hv
  obtain ⟨rfl, hP, hK, hN⟩ := hv
  have hx := B.exec
  have hb := B.bytes
  have hr := B.returns
  have hts : ∀ w ∈ ga_tbl, w.before _ s = true := fun w h => atoms_spec (ws := w_Mo_isLetter) B.pre w (List.mem_cons_of_mem _ h)
  have hown : s.vm.findClass "PatternTextModel" = some m.cls := findClass_of_methodNamed B.named
  have hlocks := B.notSynchronized
  have hl := lv_entry ([.int x]) (n := 1) (Nat.le_of_ble_eq_true rfl)
  rw [lg_entry_eq]
  generalize (lg_sl ([.int x]) ++ List.replicate (1 - (lg_sl ([.int x])).length) Slot.unset).toArray = ls at hl ⊢
  have hl : lv_has ls 1 [(0, .int x)] := hl
  refine lv_iload_n hx hb d_Mo_isLetter_0 rfl (lv_at hl 0 rfl) ?_
  refine lv_bipush (v := 97) hx hb d_Mo_isLetter_1 (by decide) ?_
  refine lv_icmp_lt (tgt := 16) hx hb d_Mo_isLetter_3 (by decide) (fun c_3 => ?_) (fun c_3 => ?_)
  · refine lv_iconst (v := 0) hx hb d_Mo_isLetter_16 (by decide) ?_
    have z9 : mo_let x = false := by simp only [mo_let, Bool.or_eq_false_iff, Bool.and_eq_false_iff, decide_eq_false_iff_not, Int32.le_iff_toInt_le, Int32.lt_iff_toInt_lt, Int32.reduceToInt] at *; omega
    have q9 : (0 : Int32) = bo_I (mo_let x) := by rw [z9]; rfl
    exact W.zret (v := 0) hx hb hr rfl (fun t ht _ => ⟨_, rfl, q9, ht⟩) (fun _ h9 => by cases h9) d_Mo_isLetter_17
  · refine lv_iload_n hx hb d_Mo_isLetter_6 rfl (lv_at hl 0 rfl) ?_
    refine lv_bipush (v := 122) hx hb d_Mo_isLetter_7 (by decide) ?_
    refine lv_icmp_gt (tgt := 16) hx hb d_Mo_isLetter_9 (by decide) (fun c_9 => ?_) (fun c_9 => ?_)
    · refine lv_iconst (v := 0) hx hb d_Mo_isLetter_16 (by decide) ?_
      have z9 : mo_let x = false := by simp only [mo_let, Bool.or_eq_false_iff, Bool.and_eq_false_iff, decide_eq_false_iff_not, Int32.le_iff_toInt_le, Int32.lt_iff_toInt_lt, Int32.reduceToInt] at *; omega
      have q9 : (0 : Int32) = bo_I (mo_let x) := by rw [z9]; rfl
      exact W.zret (v := 0) hx hb hr rfl (fun t ht _ => ⟨_, rfl, q9, ht⟩) (fun _ h9 => by cases h9) d_Mo_isLetter_17
    · refine lv_iconst (v := 1) hx hb d_Mo_isLetter_12 (by decide) ?_
      refine lv_goto (tgt := 17) hx hb d_Mo_isLetter_13 (by decide) ?_
      have z9 : mo_let x = true := by simp only [mo_let, Bool.or_eq_true, Bool.and_eq_true, decide_eq_true_eq, Int32.le_iff_toInt_le, Int32.lt_iff_toInt_lt, Int32.reduceToInt] at *; omega
      have q9 : (1 : Int32) = bo_I (mo_let x) := by rw [z9]; rfl
      exact W.zret (v := 1) hx hb hr rfl (fun t ht _ => ⟨_, rfl, q9, ht⟩) (fun _ h9 => by cases h9) d_Mo_isLetter_17

set_option maxHeartbeats 4000000 in
set_option maxRecDepth 100000 in
theorem c_Mo_isDay (l : Launch) (dC : Nat → ClassId) (dI : Nat → Nat → Nat) (x : Int32) : Met l y_Mo_isDay w_Mo_isDay ({ frames := 0, cells := 0, slots := 0, locals := 0 }) (va_Pc [.int x] (wy_R (dC, dI) ga_cl [] [])) (vp_Si (fun r => r = bo_I (mo_day x))) 0 0 (fun _ => False) := by
  refine Met.ofW (cc := b_Mo_isDay) (maxL := 1) (ret := (some .boolean)) (by decide) rfl ?_
  intro p e s m args below meth c s₁ B hml hv
  obtain ⟨rfl, hP, hK, hN⟩ := hv
  have hx := B.exec
  have hb := B.bytes
  have hr := B.returns
  have hts : ∀ w ∈ ga_tbl, w.before _ s = true := fun w h => atoms_spec (ws := w_Mo_isDay) B.pre w (List.mem_cons_of_mem _ h)
  have hown : s.vm.findClass "PatternTextModel" = some m.cls := findClass_of_methodNamed B.named
  have hlocks := B.notSynchronized
  have hl := lv_entry ([.int x]) (n := 1) (Nat.le_of_ble_eq_true rfl)
  rw [lg_entry_eq]
  generalize (lg_sl ([.int x]) ++ List.replicate (1 - (lg_sl ([.int x])).length) Slot.unset).toArray = ls at hl ⊢
  have hl : lv_has ls 1 [(0, .int x)] := hl
  refine lv_iload_n hx hb d_Mo_isDay_0 rfl (lv_at hl 0 rfl) ?_
  refine lv_if_lt (tgt := 14) hx hb d_Mo_isDay_1 (by decide) (fun c_1 => ?_) (fun c_1 => ?_)
  · refine lv_iconst (v := 0) hx hb d_Mo_isDay_14 (by decide) ?_
    have z9 : mo_day x = false := by simp only [mo_day, Bool.or_eq_false_iff, Bool.and_eq_false_iff, decide_eq_false_iff_not, Int32.le_iff_toInt_le, Int32.lt_iff_toInt_lt, Int32.reduceToInt] at *; omega
    have q9 : (0 : Int32) = bo_I (mo_day x) := by rw [z9]; rfl
    exact W.zret (v := 0) hx hb hr rfl (fun t ht _ => ⟨_, rfl, q9, ht⟩) (fun _ h9 => by cases h9) d_Mo_isDay_15
  · refine lv_iload_n hx hb d_Mo_isDay_4 rfl (lv_at hl 0 rfl) ?_
    refine lv_ldc (v := 1000000) hx hb hown (hts _ kw_706) d_Mo_isDay_5 ?_
    refine lv_icmp_gt (tgt := 14) hx hb d_Mo_isDay_7 (by decide) (fun c_7 => ?_) (fun c_7 => ?_)
    · refine lv_iconst (v := 0) hx hb d_Mo_isDay_14 (by decide) ?_
      have z9 : mo_day x = false := by simp only [mo_day, Bool.or_eq_false_iff, Bool.and_eq_false_iff, decide_eq_false_iff_not, Int32.le_iff_toInt_le, Int32.lt_iff_toInt_lt, Int32.reduceToInt] at *; omega
      have q9 : (0 : Int32) = bo_I (mo_day x) := by rw [z9]; rfl
      exact W.zret (v := 0) hx hb hr rfl (fun t ht _ => ⟨_, rfl, q9, ht⟩) (fun _ h9 => by cases h9) d_Mo_isDay_15
    · refine lv_iconst (v := 1) hx hb d_Mo_isDay_10 (by decide) ?_
      refine lv_goto (tgt := 15) hx hb d_Mo_isDay_11 (by decide) ?_
      have z9 : mo_day x = true := by simp only [mo_day, Bool.or_eq_true, Bool.and_eq_true, decide_eq_true_eq, Int32.le_iff_toInt_le, Int32.lt_iff_toInt_lt, Int32.reduceToInt] at *; omega
      have q9 : (1 : Int32) = bo_I (mo_day x) := by rw [z9]; rfl
      exact W.zret (v := 1) hx hb hr rfl (fun t ht _ => ⟨_, rfl, q9, ht⟩) (fun _ h9 => by cases h9) d_Mo_isDay_15

set_option maxHeartbeats 4000000 in
set_option maxRecDepth 100000 in
theorem c_Mo_thrown (l : Launch) (dC : Nat → ClassId) (dI : Nat → Nat → Nat) (mm : Nat) (u1 : Nat) (u5 : Nat) (u6 : Nat) (u7 : Nat) (u8 : Nat) (u9 : Nat) (u10 : Nat) (u11 : Nat) (u13 : Nat) (u15 : Nat) (u16 : Nat) (u17 : Nat) (u18 : Nat) (u19 : Nat) (u20 : Nat) (u22 : Nat) (th : Int32) (n : Nat) (pv : Int32) (wr : Int32) (cn : Nat) (hc : Nat) (ns : Nat) (pz : Nat) : Met l y_Mo_thrown w_Mo_thrown ({ frames := 0, cells := 0, slots := 0, locals := 0 }) (va_Pc [.ref mm] (wy_R (dC, dI) ga_cl [(mm, .inr (5, [.int th, .ref u1, .int (nI n), .int pv, .int wr, .ref u5, .ref u6, .ref u7, .ref u8, .ref u9, .ref u10, .ref u11, .int (nI cn), .ref u13, .int (nI hc), .ref u15, .ref u16, .ref u17, .ref u18, .ref u19, .ref u20, .int (nI ns), .ref u22, .int (nI pz)]))] [])) (vp_Si (fun r => r = th)) 0 0 (fun _ => False) := by
  refine Met.ofW (cc := b_Mo_thrown) (maxL := 1) (ret := (some .int)) (by decide) rfl ?_
  intro p e s m args below meth c s₁ B hml hv
  obtain ⟨rfl, hP, hK, hN⟩ := hv
  have hx := B.exec
  have hb := B.bytes
  have hr := B.returns
  have hts : ∀ w ∈ ga_tbl, w.before _ s = true := fun w h => atoms_spec (ws := w_Mo_thrown) B.pre w (List.mem_cons_of_mem _ h)
  have hown : s.vm.findClass "PatternTextModel" = some m.cls := findClass_of_methodNamed B.named
  have hlocks := B.notSynchronized
  have hl := lv_entry ([.ref mm]) (n := 1) (Nat.le_of_ble_eq_true rfl)
  rw [lg_entry_eq]
  generalize (lg_sl ([.ref mm]) ++ List.replicate (1 - (lg_sl ([.ref mm])).length) Slot.unset).toArray = ls at hl ⊢
  have hl : lv_has ls 1 [(0, .ref mm)] := hl
  refine lv_aload_n hx hb d_Mo_thrown_0 rfl (lv_at hl 0 rfl) ?_
  refine va_get (D := (dC, dI)) (ci := 5) (v := .int th) (C := "PatternTextModel") (T := F_Mo) (N := 24) hx hb hts iw_Mo hown hK hP 0 rfl rfl 0 (by decide) (hts _ kw_560) (fun _ h9 => h9) rfl d_Mo_thrown_1 ?_
  have q9 : (th : Int32) = th := by rfl
  exact W.iret (v := th) hx hb hr (fun t ht _ => ⟨_, rfl, q9, ht⟩) (fun _ h9 => by cases h9) d_Mo_thrown_4

set_option maxHeartbeats 4000000 in
set_option maxRecDepth 100000 in
theorem c_Mo_sign (l : Launch) (dC : Nat → ClassId) (dI : Nat → Nat → Nat) (sz : Nat) (mm : Nat) (u1 : Nat) (u5 : Nat) (u6 : Nat) (u7 : Nat) (u8 : Nat) (u9 : Nat) (u10 : Nat) (u11 : Nat) (u13 : Nat) (u15 : Nat) (u16 : Nat) (u17 : Nat) (u18 : Nat) (u19 : Nat) (u20 : Nat) (u22 : Nat) (th : Int32) (n : Nat) (pv : Int32) (wr : Int32) (cn : Nat) (hc : Nat) (ns : Nat) (pz : Nat) (cB : ClassId) (tb : Nat → Int32) (x : Int32) (hn : n ≤ 120) : Met l y_Mo_sign w_Mo_sign ({ frames := 0, cells := 0, slots := 0, locals := 0 }) (va_Pc [.ref mm, .int x] (wy_M (dC, dI) ga_cl [(mm, .inr (5, [.int th, .ref u1, .int (nI n), .int pv, .int wr, .ref u5, .ref u6, .ref u7, .ref u8, .ref u9, .ref u10, .ref u11, .int (nI cn), .ref u13, .int (nI hc), .ref u15, .ref u16, .ref u17, .ref u18, .ref u19, .ref u20, .int (nI ns), .ref u22, .int (nI pz)])), (u1, .inl (cB, 120, .inl tb))] [(cB, .byte)] sz)) (va_Qv (fun (_ : Unit) => True) (fun _ => wy_N (dC, dI) ga_cl [(cB, .byte)] (va_A [(mm, .inr (5, [.int th, .ref u1, .int (nI n), .int pv, .int wr, .ref u5, .ref u6, .ref u7, .ref u8, .ref u9, .ref u10, .ref u11, .int (nI cn), .ref u13, .int (nI hc), .ref u15, .ref u16, .ref u17, .ref u18, .ref u19, .ref u20, .int (nI ns), .ref u22, .int (nI pz)])), (u1, .inl (cB, 120, .inl tb))] sz) [(mm, .inr (5, [.int 0, .ref u1, .int (nI (if n < 120 then n + 1 else n)), .int pv, .int wr, .ref u5, .ref u6, .ref u7, .ref u8, .ref u9, .ref u10, .ref u11, .int (nI cn), .ref u13, .int (nI hc), .ref u15, .ref u16, .ref u17, .ref u18, .ref u19, .ref u20, .int (nI ns), .ref u22, .int (nI pz)])), (u1, .inl (cB, 120, .inl (if n < 120 then upd tb n (x.toInt8.toInt32) else tb)))]) (va_A [(mm, .inr (5, [.int th, .ref u1, .int (nI n), .int pv, .int wr, .ref u5, .ref u6, .ref u7, .ref u8, .ref u9, .ref u10, .ref u11, .int (nI cn), .ref u13, .int (nI hc), .ref u15, .ref u16, .ref u17, .ref u18, .ref u19, .ref u20, .int (nI ns), .ref u22, .int (nI pz)])), (u1, .inl (cB, 120, .inl tb))] sz)) 0 0 (va_A [(mm, .inr (5, [.int th, .ref u1, .int (nI n), .int pv, .int wr, .ref u5, .ref u6, .ref u7, .ref u8, .ref u9, .ref u10, .ref u11, .int (nI cn), .ref u13, .int (nI hc), .ref u15, .ref u16, .ref u17, .ref u18, .ref u19, .ref u20, .int (nI ns), .ref u22, .int (nI pz)])), (u1, .inl (cB, 120, .inl tb))] sz) := by
  refine Met.ofW (cc := b_Mo_sign) (maxL := 2) (ret := none) (by decide) rfl ?_
  intro p e s m args below meth c s₁ B hml hv
  obtain ⟨rfl, hsz, hP, hK, hN, hD0⟩ := hv
  have hx := B.exec
  have hb := B.bytes
  have hr := B.returns
  have hts : ∀ w ∈ ga_tbl, w.before _ s = true := fun w h => atoms_spec (ws := w_Mo_sign) B.pre w (List.mem_cons_of_mem _ h)
  have hown : s.vm.findClass "PatternTextModel" = some m.cls := findClass_of_methodNamed B.named
  have hlocks := B.notSynchronized
  subst hsz
  have hD := hD0.self (sz := s.heap.size)
  generalize hAe : va_A [(mm, .inr (5, [.int th, .ref u1, .int (nI n), .int pv, .int wr, .ref u5, .ref u6, .ref u7, .ref u8, .ref u9, .ref u10, .ref u11, .int (nI cn), .ref u13, .int (nI hc), .ref u15, .ref u16, .ref u17, .ref u18, .ref u19, .ref u20, .int (nI ns), .ref u22, .int (nI pz)])), (u1, .inl (cB, 120, .inl tb))] s.heap.size = A at hD ⊢
  have hA : ∀ q : Nat, s.heap.size ≤ q → A q := fun q h => by rw [← hAe]; exact Or.inr h
  have hS : va_S A s.heap s.heap [] := va_S.rf
  have hl := lv_entry ([.ref mm, .int x]) (n := 2) (Nat.le_of_ble_eq_true rfl)
  rw [lg_entry_eq]
  generalize (lg_sl ([.ref mm, .int x]) ++ List.replicate (2 - (lg_sl ([.ref mm, .int x])).length) Slot.unset).toArray = ls at hl ⊢
  have hl : lv_has ls 2 [(0, .ref mm), (1, .int x)] := hl
  obtain ⟨Q0, hQ⟩ : ∃ Q0 : State → Prop, Q0 = MQ below (va_Qv (fun (_ : Unit) => True) (fun _ => wy_N (dC, dI) ga_cl [(cB, .byte)] A [(mm, .inr (5, [.int 0, .ref u1, .int (nI (if n < 120 then n + 1 else n)), .int pv, .int wr, .ref u5, .ref u6, .ref u7, .ref u8, .ref u9, .ref u10, .ref u11, .int (nI cn), .ref u13, .int (nI hc), .ref u15, .ref u16, .ref u17, .ref u18, .ref u19, .ref u20, .int (nI ns), .ref u22, .int (nI pz)])), (u1, .inl (cB, 120, .inl (if n < 120 then upd tb n (x.toInt8.toInt32) else tb)))]) A) ([.ref mm, .int x] : List Value).toArray s 0 0 A := ⟨_, rfl⟩
  show W p l e ({ frames := 0, cells := 0, slots := 0, locals := 0 }) s m ([.ref mm, .int x] : List Value).toArray below meth c s.heap [] 0 0 (MQ below (va_Qv (fun (_ : Unit) => True) (fun _ => wy_N (dC, dI) ga_cl [(cB, .byte)] A [(mm, .inr (5, [.int 0, .ref u1, .int (nI (if n < 120 then n + 1 else n)), .int pv, .int wr, .ref u5, .ref u6, .ref u7, .ref u8, .ref u9, .ref u10, .ref u11, .int (nI cn), .ref u13, .int (nI hc), .ref u15, .ref u16, .ref u17, .ref u18, .ref u19, .ref u20, .int (nI ns), .ref u22, .int (nI pz)])), (u1, .inl (cB, 120, .inl (if n < 120 then upd tb n (x.toInt8.toInt32) else tb)))]) A) ([.ref mm, .int x] : List Value).toArray s 0 0 A) (F0 m 0 ls [])
  rw [← hQ]
  refine lv_aload_n hx hb d_Mo_sign_0 rfl (lv_at hl 0 rfl) ?_
  refine lv_iconst (v := 0) hx hb d_Mo_sign_1 (by decide) ?_
  refine va_put (D := (dC, dI)) (ci := 5) (v := .int 0) (ty := .int) (C := "PatternTextModel") (T := F_Mo) (N := 24) hx hb hts iw_Mo t_Mo t_Mo_ok n_Mo hown hK hP hD hS 0 rfl rfl 0 (by decide) (hts _ kw_560) (fun _ h9 => h9) rfl (by decide +kernel) rfl rfl (Nat.le_of_ble_eq_true rfl) d_Mo_sign_2 (fun H locs hP hD hS => ?_)
  have hP : va_P (dC, dI) ga_cl [(mm, .inr (5, [.int 0, .ref u1, .int (nI n), .int pv, .int wr, .ref u5, .ref u6, .ref u7, .ref u8, .ref u9, .ref u10, .ref u11, .int (nI cn), .ref u13, .int (nI hc), .ref u15, .ref u16, .ref u17, .ref u18, .ref u19, .ref u20, .int (nI ns), .ref u22, .int (nI pz)])), (u1, .inl (cB, 120, .inl tb))] H := hP
  have hD : va_D A [(mm, .inr (5, [.int 0, .ref u1, .int (nI n), .int pv, .int wr, .ref u5, .ref u6, .ref u7, .ref u8, .ref u9, .ref u10, .ref u11, .int (nI cn), .ref u13, .int (nI hc), .ref u15, .ref u16, .ref u17, .ref u18, .ref u19, .ref u20, .int (nI ns), .ref u22, .int (nI pz)])), (u1, .inl (cB, 120, .inl tb))] := hD
  refine lv_aload_n hx hb d_Mo_sign_5 rfl (lv_at hl 0 rfl) ?_
  refine va_get (D := (dC, dI)) (ci := 5) (v := .int (nI n)) (C := "PatternTextModel") (T := F_Mo) (N := 24) hx hb hts iw_Mo hown hK hP 0 rfl rfl 2 (by decide) (hts _ kw_562) (fun _ h9 => h9) rfl d_Mo_sign_6 ?_
  refine lv_bipush (v := 120) hx hb d_Mo_sign_9 (by decide) ?_
  refine wy_icmp_ge (tgt := 35) hx hb n 120 (by omega) (by omega) d_Mo_sign_11 (by decide) (fun c_11 => ?_) (fun c_11 => ?_)
  · rw [hQ]
    have e9 : ([(mm, .inr (5, [.int 0, .ref u1, .int (nI (if n < 120 then n + 1 else n)), .int pv, .int wr, .ref u5, .ref u6, .ref u7, .ref u8, .ref u9, .ref u10, .ref u11, .int (nI cn), .ref u13, .int (nI hc), .ref u15, .ref u16, .ref u17, .ref u18, .ref u19, .ref u20, .int (nI ns), .ref u22, .int (nI pz)])), (u1, .inl (cB, 120, .inl (if n < 120 then upd tb n (x.toInt8.toInt32) else tb)))] : va_W) = [(mm, .inr (5, [.int 0, .ref u1, .int (nI n), .int pv, .int wr, .ref u5, .ref u6, .ref u7, .ref u8, .ref u9, .ref u10, .ref u11, .int (nI cn), .ref u13, .int (nI hc), .ref u15, .ref u16, .ref u17, .ref u18, .ref u19, .ref u20, .int (nI ns), .ref u22, .int (nI pz)])), (u1, .inl (cB, 120, .inl tb))] := by first | rw [if_neg (by omega), if_neg (by omega)] | rw [if_pos c_11, if_pos c_11]
    exact W.vret hx hb hr (fun t ht hW => ⟨⟨(), rfl, trivial, by rw [ht, e9]; exact hP, va_K.moved hW.alike hK, by rw [e9]; exact hD⟩, hS.F ht⟩) hS.2.2 d_Mo_sign_35
  · refine lv_aload_n hx hb d_Mo_sign_14 rfl (lv_at hl 0 rfl) ?_
    refine va_get (D := (dC, dI)) (ci := 5) (v := .ref u1) (C := "PatternTextModel") (T := F_Mo) (N := 24) hx hb hts iw_Mo hown hK hP 0 rfl rfl 1 (by decide) (hts _ kw_561) (fun _ h9 => h9) rfl d_Mo_sign_15 ?_
    refine lv_aload_n hx hb d_Mo_sign_18 rfl (lv_at hl 0 rfl) ?_
    refine va_get (D := (dC, dI)) (ci := 5) (v := .int (nI n)) (C := "PatternTextModel") (T := F_Mo) (N := 24) hx hb hts iw_Mo hown hK hP 0 rfl rfl 2 (by decide) (hts _ kw_562) (fun _ h9 => h9) rfl d_Mo_sign_19 ?_
    refine lv_iload_n hx hb d_Mo_sign_22 rfl (lv_at hl 1 rfl) ?_
    refine lv_i2b (v := x.toInt8.toInt32) hx hb d_Mo_sign_23 rfl ?_
    refine wy_bast hx hb hK hP hD hS 1 0 n rfl rfl (pk_vb _) (by omega) (by omega) d_Mo_sign_24 (fun H locs hP hD hS => ?_)
    have hP : va_P (dC, dI) ga_cl [(mm, .inr (5, [.int 0, .ref u1, .int (nI n), .int pv, .int wr, .ref u5, .ref u6, .ref u7, .ref u8, .ref u9, .ref u10, .ref u11, .int (nI cn), .ref u13, .int (nI hc), .ref u15, .ref u16, .ref u17, .ref u18, .ref u19, .ref u20, .int (nI ns), .ref u22, .int (nI pz)])), (u1, .inl (cB, 120, .inl (upd tb n x.toInt8.toInt32)))] H := hP
    have hD : va_D A [(mm, .inr (5, [.int 0, .ref u1, .int (nI n), .int pv, .int wr, .ref u5, .ref u6, .ref u7, .ref u8, .ref u9, .ref u10, .ref u11, .int (nI cn), .ref u13, .int (nI hc), .ref u15, .ref u16, .ref u17, .ref u18, .ref u19, .ref u20, .int (nI ns), .ref u22, .int (nI pz)])), (u1, .inl (cB, 120, .inl (upd tb n x.toInt8.toInt32)))] := hD
    refine lv_aload_n hx hb d_Mo_sign_25 rfl (lv_at hl 0 rfl) ?_
    refine lv_dup hx hb d_Mo_sign_26 rfl ?_
    refine va_get (D := (dC, dI)) (ci := 5) (v := .int (nI n)) (C := "PatternTextModel") (T := F_Mo) (N := 24) hx hb hts iw_Mo hown hK hP 0 rfl rfl 2 (by decide) (hts _ kw_562) (fun _ h9 => h9) rfl d_Mo_sign_27 ?_
    refine lv_iconst (v := 1) hx hb d_Mo_sign_30 (by decide) ?_
    refine wy_iadd hx hb n 1 d_Mo_sign_31 ?_
    refine va_put (D := (dC, dI)) (ci := 5) (v := .int (nI (n + 1))) (ty := .int) (C := "PatternTextModel") (T := F_Mo) (N := 24) hx hb hts iw_Mo t_Mo t_Mo_ok n_Mo hown hK hP hD hS 0 rfl rfl 2 (by decide) (hts _ kw_562) (fun _ h9 => h9) rfl (by decide +kernel) rfl rfl (Nat.le_of_ble_eq_true rfl) d_Mo_sign_32 (fun H locs hP hD hS => ?_)
    have hP : va_P (dC, dI) ga_cl [(mm, .inr (5, [.int 0, .ref u1, .int (nI (n + 1)), .int pv, .int wr, .ref u5, .ref u6, .ref u7, .ref u8, .ref u9, .ref u10, .ref u11, .int (nI cn), .ref u13, .int (nI hc), .ref u15, .ref u16, .ref u17, .ref u18, .ref u19, .ref u20, .int (nI ns), .ref u22, .int (nI pz)])), (u1, .inl (cB, 120, .inl (upd tb n x.toInt8.toInt32)))] H := hP
    have hD : va_D A [(mm, .inr (5, [.int 0, .ref u1, .int (nI (n + 1)), .int pv, .int wr, .ref u5, .ref u6, .ref u7, .ref u8, .ref u9, .ref u10, .ref u11, .int (nI cn), .ref u13, .int (nI hc), .ref u15, .ref u16, .ref u17, .ref u18, .ref u19, .ref u20, .int (nI ns), .ref u22, .int (nI pz)])), (u1, .inl (cB, 120, .inl (upd tb n x.toInt8.toInt32)))] := hD
    rw [hQ]
    have e9 : ([(mm, .inr (5, [.int 0, .ref u1, .int (nI (if n < 120 then n + 1 else n)), .int pv, .int wr, .ref u5, .ref u6, .ref u7, .ref u8, .ref u9, .ref u10, .ref u11, .int (nI cn), .ref u13, .int (nI hc), .ref u15, .ref u16, .ref u17, .ref u18, .ref u19, .ref u20, .int (nI ns), .ref u22, .int (nI pz)])), (u1, .inl (cB, 120, .inl (if n < 120 then upd tb n (x.toInt8.toInt32) else tb)))] : va_W) = [(mm, .inr (5, [.int 0, .ref u1, .int (nI (n + 1)), .int pv, .int wr, .ref u5, .ref u6, .ref u7, .ref u8, .ref u9, .ref u10, .ref u11, .int (nI cn), .ref u13, .int (nI hc), .ref u15, .ref u16, .ref u17, .ref u18, .ref u19, .ref u20, .int (nI ns), .ref u22, .int (nI pz)])), (u1, .inl (cB, 120, .inl (upd tb n x.toInt8.toInt32)))] := by first | rw [if_neg (by omega), if_neg (by omega)] | rw [if_pos c_11, if_pos c_11]
    exact W.vret hx hb hr (fun t ht hW => ⟨⟨(), rfl, trivial, by rw [ht, e9]; exact hP, va_K.moved hW.alike hK, by rw [e9]; exact hD⟩, hS.F ht⟩) hS.2.2 d_Mo_sign_35

set_option maxHeartbeats 4000000 in
set_option maxRecDepth 100000 in
theorem c_Mo_look (l : Launch) (dC : Nat → ClassId) (dI : Nat → Nat → Nat) (mm : Nat) (u1 : Nat) (u5 : Nat) (u6 : Nat) (u7 : Nat) (u8 : Nat) (u9 : Nat) (u10 : Nat) (u11 : Nat) (u13 : Nat) (u15 : Nat) (u16 : Nat) (u17 : Nat) (u18 : Nat) (u19 : Nat) (u20 : Nat) (u22 : Nat) (th : Int32) (n : Nat) (pv : Int32) (wr : Int32) (cn : Nat) (hc : Nat) (ns : Nat) (pz : Nat) (cB : ClassId) (tb : Nat → Int32) (k : Nat) (hn : n ≤ 120) (hk : k < 2 ^ 31) : Met l y_Mo_look w_Mo_look ({ frames := 0, cells := 0, slots := 0, locals := 0 }) (va_Pc [.ref mm, .int (nI k)] (wy_R (dC, dI) ga_cl [(mm, .inr (5, [.int th, .ref u1, .int (nI n), .int pv, .int wr, .ref u5, .ref u6, .ref u7, .ref u8, .ref u9, .ref u10, .ref u11, .int (nI cn), .ref u13, .int (nI hc), .ref u15, .ref u16, .ref u17, .ref u18, .ref u19, .ref u20, .int (nI ns), .ref u22, .int (nI pz)])), (u1, .inl (cB, 120, .inl tb))] [(cB, .byte)])) (vp_Si (fun r => r = rd_sg (by8 tb) n k)) 0 0 (fun _ => False) := by
  refine Met.ofW (cc := b_Mo_look) (maxL := 2) (ret := (some .int)) (by decide) rfl ?_
  intro p e s m args below meth c s₁ B hml hv
  obtain ⟨rfl, hP, hK, hN⟩ := hv
  have hx := B.exec
  have hb := B.bytes
  have hr := B.returns
  have hts : ∀ w ∈ ga_tbl, w.before _ s = true := fun w h => atoms_spec (ws := w_Mo_look) B.pre w (List.mem_cons_of_mem _ h)
  have hown : s.vm.findClass "PatternTextModel" = some m.cls := findClass_of_methodNamed B.named
  have hlocks := B.notSynchronized
  have hl := lv_entry ([.ref mm, .int (nI k)]) (n := 2) (Nat.le_of_ble_eq_true rfl)
  rw [lg_entry_eq]
  generalize (lg_sl ([.ref mm, .int (nI k)]) ++ List.replicate (2 - (lg_sl ([.ref mm, .int (nI k)])).length) Slot.unset).toArray = ls at hl ⊢
  have hl : lv_has ls 2 [(0, .ref mm), (1, .int (nI k))] := hl
  refine lv_iload_n hx hb d_Mo_look_0 rfl (lv_at hl 1 rfl) ?_
  refine lv_aload_n hx hb d_Mo_look_1 rfl (lv_at hl 0 rfl) ?_
  refine va_get (D := (dC, dI)) (ci := 5) (v := .int (nI n)) (C := "PatternTextModel") (T := F_Mo) (N := 24) hx hb hts iw_Mo hown hK hP 0 rfl rfl 2 (by decide) (hts _ kw_562) (fun _ h9 => h9) rfl d_Mo_look_2 ?_
  refine wy_icmp_ge (tgt := 21) hx hb k n (by omega) (by omega) d_Mo_look_5 (by decide) (fun c_5 => ?_) (fun c_5 => ?_)
  · refine lv_iconst (v := -1) hx hb d_Mo_look_21 (by decide) ?_
    have q9 : ((-1) : Int32) = rd_sg (by8 tb) n k := by unfold rd_sg by8; first | rw [if_pos c_5] | rw [if_neg (by omega)]
    exact W.iret (v := (-1)) hx hb hr (fun t ht _ => ⟨_, rfl, q9, ht⟩) (fun _ h9 => by cases h9) d_Mo_look_22
  · refine lv_aload_n hx hb d_Mo_look_8 rfl (lv_at hl 0 rfl) ?_
    refine va_get (D := (dC, dI)) (ci := 5) (v := .ref u1) (C := "PatternTextModel") (T := F_Mo) (N := 24) hx hb hts iw_Mo hown hK hP 0 rfl rfl 1 (by decide) (hts _ kw_561) (fun _ h9 => h9) rfl d_Mo_look_9 ?_
    refine lv_iload_n hx hb d_Mo_look_12 rfl (lv_at hl 1 rfl) ?_
    refine wy_bald hx hb hK hP 1 0 k rfl rfl (by omega) (by omega) d_Mo_look_13 ?_
    refine lv_sipush (v := 255) hx hb d_Mo_look_14 (by decide) ?_
    refine lv_iand hx hb d_Mo_look_17 ?_
    refine lv_goto (tgt := 22) hx hb d_Mo_look_18 (by decide) ?_
    have q9 : ((tb k) &&& 255 : Int32) = rd_sg (by8 tb) n k := by unfold rd_sg by8; first | rw [if_pos c_5] | rw [if_neg (by omega)]
    exact W.iret (v := (tb k) &&& 255) hx hb hr (fun t ht _ => ⟨_, rfl, q9, ht⟩) (fun _ h9 => by cases h9) d_Mo_look_22

set_option maxHeartbeats 4000000 in
set_option maxRecDepth 100000 in
theorem c_Mo_bad (l : Launch) (dC : Nat → ClassId) (dI : Nat → Nat → Nat) (sz : Nat) (mm : Nat) (u1 : Nat) (u5 : Nat) (u6 : Nat) (u7 : Nat) (u8 : Nat) (u9 : Nat) (u10 : Nat) (u11 : Nat) (u13 : Nat) (u15 : Nat) (u16 : Nat) (u17 : Nat) (u18 : Nat) (u19 : Nat) (u20 : Nat) (u22 : Nat) (th : Int32) (n : Nat) (pv : Int32) (wr : Int32) (cn : Nat) (hc : Nat) (ns : Nat) (pz : Nat) (x : Int32) : Met l y_Mo_bad w_Mo_bad ({ frames := 0, cells := 0, slots := 0, locals := 0 }) (va_Pc [.ref mm, .int x] (wy_M (dC, dI) ga_cl [(mm, .inr (5, [.int th, .ref u1, .int (nI n), .int pv, .int wr, .ref u5, .ref u6, .ref u7, .ref u8, .ref u9, .ref u10, .ref u11, .int (nI cn), .ref u13, .int (nI hc), .ref u15, .ref u16, .ref u17, .ref u18, .ref u19, .ref u20, .int (nI ns), .ref u22, .int (nI pz)]))] [] sz)) (va_Qi (fun (r : Int32) (_ : Unit) => r = bo_I false) (fun _ => wy_N (dC, dI) ga_cl [] (va_A [(mm, .inr (5, [.int th, .ref u1, .int (nI n), .int pv, .int wr, .ref u5, .ref u6, .ref u7, .ref u8, .ref u9, .ref u10, .ref u11, .int (nI cn), .ref u13, .int (nI hc), .ref u15, .ref u16, .ref u17, .ref u18, .ref u19, .ref u20, .int (nI ns), .ref u22, .int (nI pz)]))] sz) [(mm, .inr (5, [.int th, .ref u1, .int (nI n), .int pv, .int x, .ref u5, .ref u6, .ref u7, .ref u8, .ref u9, .ref u10, .ref u11, .int (nI cn), .ref u13, .int (nI hc), .ref u15, .ref u16, .ref u17, .ref u18, .ref u19, .ref u20, .int (nI ns), .ref u22, .int (nI pz)]))]) (va_A [(mm, .inr (5, [.int th, .ref u1, .int (nI n), .int pv, .int wr, .ref u5, .ref u6, .ref u7, .ref u8, .ref u9, .ref u10, .ref u11, .int (nI cn), .ref u13, .int (nI hc), .ref u15, .ref u16, .ref u17, .ref u18, .ref u19, .ref u20, .int (nI ns), .ref u22, .int (nI pz)]))] sz)) 0 0 (va_A [(mm, .inr (5, [.int th, .ref u1, .int (nI n), .int pv, .int wr, .ref u5, .ref u6, .ref u7, .ref u8, .ref u9, .ref u10, .ref u11, .int (nI cn), .ref u13, .int (nI hc), .ref u15, .ref u16, .ref u17, .ref u18, .ref u19, .ref u20, .int (nI ns), .ref u22, .int (nI pz)]))] sz) := by
  refine Met.ofW (cc := b_Mo_bad) (maxL := 2) (ret := (some .boolean)) (by decide) rfl ?_
  intro p e s m args below meth c s₁ B hml hv
  obtain ⟨rfl, hsz, hP, hK, hN, hD0⟩ := hv
  have hx := B.exec
  have hb := B.bytes
  have hr := B.returns
  have hts : ∀ w ∈ ga_tbl, w.before _ s = true := fun w h => atoms_spec (ws := w_Mo_bad) B.pre w (List.mem_cons_of_mem _ h)
  have hown : s.vm.findClass "PatternTextModel" = some m.cls := findClass_of_methodNamed B.named
  have hlocks := B.notSynchronized
  subst hsz
  have hD := hD0.self (sz := s.heap.size)
  generalize hAe : va_A [(mm, .inr (5, [.int th, .ref u1, .int (nI n), .int pv, .int wr, .ref u5, .ref u6, .ref u7, .ref u8, .ref u9, .ref u10, .ref u11, .int (nI cn), .ref u13, .int (nI hc), .ref u15, .ref u16, .ref u17, .ref u18, .ref u19, .ref u20, .int (nI ns), .ref u22, .int (nI pz)]))] s.heap.size = A at hD ⊢
  have hA : ∀ q : Nat, s.heap.size ≤ q → A q := fun q h => by rw [← hAe]; exact Or.inr h
  have hS : va_S A s.heap s.heap [] := va_S.rf
  have hl := lv_entry ([.ref mm, .int x]) (n := 2) (Nat.le_of_ble_eq_true rfl)
  rw [lg_entry_eq]
  generalize (lg_sl ([.ref mm, .int x]) ++ List.replicate (2 - (lg_sl ([.ref mm, .int x])).length) Slot.unset).toArray = ls at hl ⊢
  have hl : lv_has ls 2 [(0, .ref mm), (1, .int x)] := hl
  obtain ⟨Q0, hQ⟩ : ∃ Q0 : State → Prop, Q0 = MQ below (va_Qi (fun (r : Int32) (_ : Unit) => r = bo_I false) (fun _ => wy_N (dC, dI) ga_cl [] A [(mm, .inr (5, [.int th, .ref u1, .int (nI n), .int pv, .int x, .ref u5, .ref u6, .ref u7, .ref u8, .ref u9, .ref u10, .ref u11, .int (nI cn), .ref u13, .int (nI hc), .ref u15, .ref u16, .ref u17, .ref u18, .ref u19, .ref u20, .int (nI ns), .ref u22, .int (nI pz)]))]) A) ([.ref mm, .int x] : List Value).toArray s 0 0 A := ⟨_, rfl⟩
  show W p l e ({ frames := 0, cells := 0, slots := 0, locals := 0 }) s m ([.ref mm, .int x] : List Value).toArray below meth c s.heap [] 0 0 (MQ below (va_Qi (fun (r : Int32) (_ : Unit) => r = bo_I false) (fun _ => wy_N (dC, dI) ga_cl [] A [(mm, .inr (5, [.int th, .ref u1, .int (nI n), .int pv, .int x, .ref u5, .ref u6, .ref u7, .ref u8, .ref u9, .ref u10, .ref u11, .int (nI cn), .ref u13, .int (nI hc), .ref u15, .ref u16, .ref u17, .ref u18, .ref u19, .ref u20, .int (nI ns), .ref u22, .int (nI pz)]))]) A) ([.ref mm, .int x] : List Value).toArray s 0 0 A) (F0 m 0 ls [])
  rw [← hQ]
  refine lv_aload_n hx hb d_Mo_bad_0 rfl (lv_at hl 0 rfl) ?_
  refine lv_iload_n hx hb d_Mo_bad_1 rfl (lv_at hl 1 rfl) ?_
  refine va_put (D := (dC, dI)) (ci := 5) (v := .int x) (ty := .int) (C := "PatternTextModel") (T := F_Mo) (N := 24) hx hb hts iw_Mo t_Mo t_Mo_ok n_Mo hown hK hP hD hS 0 rfl rfl 4 (by decide) (hts _ kw_564) (fun _ h9 => h9) rfl (by decide +kernel) rfl rfl (Nat.le_of_ble_eq_true rfl) d_Mo_bad_2 (fun H locs hP hD hS => ?_)
  have hP : va_P (dC, dI) ga_cl [(mm, .inr (5, [.int th, .ref u1, .int (nI n), .int pv, .int x, .ref u5, .ref u6, .ref u7, .ref u8, .ref u9, .ref u10, .ref u11, .int (nI cn), .ref u13, .int (nI hc), .ref u15, .ref u16, .ref u17, .ref u18, .ref u19, .ref u20, .int (nI ns), .ref u22, .int (nI pz)]))] H := hP
  have hD : va_D A [(mm, .inr (5, [.int th, .ref u1, .int (nI n), .int pv, .int x, .ref u5, .ref u6, .ref u7, .ref u8, .ref u9, .ref u10, .ref u11, .int (nI cn), .ref u13, .int (nI hc), .ref u15, .ref u16, .ref u17, .ref u18, .ref u19, .ref u20, .int (nI ns), .ref u22, .int (nI pz)]))] := hD
  refine lv_iconst (v := 0) hx hb d_Mo_bad_5 (by decide) ?_
  rw [hQ]
  have q9 : (0 : Int32) = bo_I false := by rfl
  have e9 : ([(mm, .inr (5, [.int th, .ref u1, .int (nI n), .int pv, .int x, .ref u5, .ref u6, .ref u7, .ref u8, .ref u9, .ref u10, .ref u11, .int (nI cn), .ref u13, .int (nI hc), .ref u15, .ref u16, .ref u17, .ref u18, .ref u19, .ref u20, .int (nI ns), .ref u22, .int (nI pz)]))] : va_W) = [(mm, .inr (5, [.int th, .ref u1, .int (nI n), .int pv, .int x, .ref u5, .ref u6, .ref u7, .ref u8, .ref u9, .ref u10, .ref u11, .int (nI cn), .ref u13, .int (nI hc), .ref u15, .ref u16, .ref u17, .ref u18, .ref u19, .ref u20, .int (nI ns), .ref u22, .int (nI pz)]))] := by rfl
  exact W.zret (v := 0) hx hb hr rfl (fun t ht hW => ⟨⟨_, (), rfl, q9, by rw [ht, e9]; exact hP, va_K.moved hW.alike hK, by rw [e9]; exact hD⟩, hS.F ht⟩) hS.2.2 d_Mo_bad_6

set_option maxHeartbeats 4000000 in
set_option maxRecDepth 100000 in
theorem c_Mo_space (l : Launch) (dC : Nat → ClassId) (dI : Nat → Nat → Nat) (sz : Nat) (mm : Nat) (u1 : Nat) (u5 : Nat) (u6 : Nat) (u7 : Nat) (u8 : Nat) (u9 : Nat) (u10 : Nat) (u11 : Nat) (u13 : Nat) (u15 : Nat) (u16 : Nat) (u17 : Nat) (u18 : Nat) (u19 : Nat) (u20 : Nat) (u22 : Nat) (th : Int32) (n : Nat) (pp : Nat) (wr : Int32) (cn : Nat) (hc : Nat) (ns : Nat) (pz : Nat) (cB : ClassId) (tb : Nat → Int32) (hn : n ≤ 120) (hp : pp ≤ n) : Met l y_Mo_space w_Mo_space ({ frames := 1, cells := 0, slots := 0, locals := 21 }) (va_Pc [.ref mm] (wy_M (dC, dI) ga_cl [(mm, .inr (5, [.int th, .ref u1, .int (nI n), .int (nI pp), .int wr, .ref u5, .ref u6, .ref u7, .ref u8, .ref u9, .ref u10, .ref u11, .int (nI cn), .ref u13, .int (nI hc), .ref u15, .ref u16, .ref u17, .ref u18, .ref u19, .ref u20, .int (nI ns), .ref u22, .int (nI pz)])), (u1, .inl (cB, 120, .inl tb))] [(cB, .byte)] sz)) (va_Qi (fun (r : Int32) (_ : Unit) => r = bo_I (rd_sp (by8 tb) n pp)) (fun _ => wy_N (dC, dI) ga_cl [(cB, .byte)] (va_A [(mm, .inr (5, [.int th, .ref u1, .int (nI n), .int (nI pp), .int wr, .ref u5, .ref u6, .ref u7, .ref u8, .ref u9, .ref u10, .ref u11, .int (nI cn), .ref u13, .int (nI hc), .ref u15, .ref u16, .ref u17, .ref u18, .ref u19, .ref u20, .int (nI ns), .ref u22, .int (nI pz)])), (u1, .inl (cB, 120, .inl tb))] sz) [(mm, .inr (5, [.int th, .ref u1, .int (nI n), .int (nI (cond (rd_sp (by8 tb) n pp) (pp + 1) pp)), .int (cond (rd_sp (by8 tb) n pp) wr (nI pp)), .ref u5, .ref u6, .ref u7, .ref u8, .ref u9, .ref u10, .ref u11, .int (nI cn), .ref u13, .int (nI hc), .ref u15, .ref u16, .ref u17, .ref u18, .ref u19, .ref u20, .int (nI ns), .ref u22, .int (nI pz)])), (u1, .inl (cB, 120, .inl tb))]) (va_A [(mm, .inr (5, [.int th, .ref u1, .int (nI n), .int (nI pp), .int wr, .ref u5, .ref u6, .ref u7, .ref u8, .ref u9, .ref u10, .ref u11, .int (nI cn), .ref u13, .int (nI hc), .ref u15, .ref u16, .ref u17, .ref u18, .ref u19, .ref u20, .int (nI ns), .ref u22, .int (nI pz)])), (u1, .inl (cB, 120, .inl tb))] sz)) 0 0 (va_A [(mm, .inr (5, [.int th, .ref u1, .int (nI n), .int (nI pp), .int wr, .ref u5, .ref u6, .ref u7, .ref u8, .ref u9, .ref u10, .ref u11, .int (nI cn), .ref u13, .int (nI hc), .ref u15, .ref u16, .ref u17, .ref u18, .ref u19, .ref u20, .int (nI ns), .ref u22, .int (nI pz)])), (u1, .inl (cB, 120, .inl tb))] sz) := by
  refine Met.ofW (cc := b_Mo_space) (maxL := 1) (ret := (some .boolean)) (by decide) rfl ?_
  intro p e s m args below meth c s₁ B hml hv
  obtain ⟨rfl, hsz, hP, hK, hN, hD0⟩ := hv
  have hx := B.exec
  have hb := B.bytes
  have hr := B.returns
  have hts : ∀ w ∈ ga_tbl, w.before _ s = true := fun w h => atoms_spec (ws := w_Mo_space) B.pre w (List.mem_cons_of_mem _ h)
  have hown : s.vm.findClass "PatternTextModel" = some m.cls := findClass_of_methodNamed B.named
  have hlocks := B.notSynchronized
  subst hsz
  have hD := hD0.self (sz := s.heap.size)
  generalize hAe : va_A [(mm, .inr (5, [.int th, .ref u1, .int (nI n), .int (nI pp), .int wr, .ref u5, .ref u6, .ref u7, .ref u8, .ref u9, .ref u10, .ref u11, .int (nI cn), .ref u13, .int (nI hc), .ref u15, .ref u16, .ref u17, .ref u18, .ref u19, .ref u20, .int (nI ns), .ref u22, .int (nI pz)])), (u1, .inl (cB, 120, .inl tb))] s.heap.size = A at hD ⊢
  have hA : ∀ q : Nat, s.heap.size ≤ q → A q := fun q h => by rw [← hAe]; exact Or.inr h
  have hS : va_S A s.heap s.heap [] := va_S.rf
  have hl := lv_entry ([.ref mm]) (n := 1) (Nat.le_of_ble_eq_true rfl)
  rw [lg_entry_eq]
  generalize (lg_sl ([.ref mm]) ++ List.replicate (1 - (lg_sl ([.ref mm])).length) Slot.unset).toArray = ls at hl ⊢
  have hl : lv_has ls 1 [(0, .ref mm)] := hl
  obtain ⟨Q0, hQ⟩ : ∃ Q0 : State → Prop, Q0 = MQ below (va_Qi (fun (r : Int32) (_ : Unit) => r = bo_I (rd_sp (by8 tb) n pp)) (fun _ => wy_N (dC, dI) ga_cl [(cB, .byte)] A [(mm, .inr (5, [.int th, .ref u1, .int (nI n), .int (nI (cond (rd_sp (by8 tb) n pp) (pp + 1) pp)), .int (cond (rd_sp (by8 tb) n pp) wr (nI pp)), .ref u5, .ref u6, .ref u7, .ref u8, .ref u9, .ref u10, .ref u11, .int (nI cn), .ref u13, .int (nI hc), .ref u15, .ref u16, .ref u17, .ref u18, .ref u19, .ref u20, .int (nI ns), .ref u22, .int (nI pz)])), (u1, .inl (cB, 120, .inl tb))]) A) ([.ref mm] : List Value).toArray s 0 0 A := ⟨_, rfl⟩
  show W p l e ({ frames := 1, cells := 0, slots := 0, locals := 21 }) s m ([.ref mm] : List Value).toArray below meth c s.heap [] 0 0 (MQ below (va_Qi (fun (r : Int32) (_ : Unit) => r = bo_I (rd_sp (by8 tb) n pp)) (fun _ => wy_N (dC, dI) ga_cl [(cB, .byte)] A [(mm, .inr (5, [.int th, .ref u1, .int (nI n), .int (nI (cond (rd_sp (by8 tb) n pp) (pp + 1) pp)), .int (cond (rd_sp (by8 tb) n pp) wr (nI pp)), .ref u5, .ref u6, .ref u7, .ref u8, .ref u9, .ref u10, .ref u11, .int (nI cn), .ref u13, .int (nI hc), .ref u15, .ref u16, .ref u17, .ref u18, .ref u19, .ref u20, .int (nI ns), .ref u22, .int (nI pz)])), (u1, .inl (cB, 120, .inl tb))]) A) ([.ref mm] : List Value).toArray s 0 0 A) (F0 m 0 ls [])
  rw [← hQ]
  refine lv_aload_n hx hb d_Mo_space_0 rfl (lv_at hl 0 rfl) ?_
  refine lv_aload_n hx hb d_Mo_space_1 rfl (lv_at hl 0 rfl) ?_
  refine va_get (D := (dC, dI)) (ci := 5) (v := .int (nI pp)) (C := "PatternTextModel") (T := F_Mo) (N := 24) hx hb hts iw_Mo hown hK hP 0 rfl rfl 3 (by decide) (hts _ kw_563) (fun _ h9 => h9) rfl d_Mo_space_2 ?_
  refine vp_callSi (va_runV (As := [.int (nI pp)]) (rest := []) ⟨hx, hb, hml, hown, hts⟩ (c_Mo_look l dC dI mm u1 u5 u6 u7 u8 u9 u10 u11 u13 u15 u16 u17 u18 u19 u20 u22 th n (nI pp) wr cn hc ns pz cB tb pp (by omega) (by omega)) (cwV 1 hts (ga_V kw_658 kw_660 kw_19 kw_38 (ga_in kw_661)) rfl rfl rfl (by decide +kernel) ⟨Nat.le_of_ble_eq_true rfl, Nat.le_of_ble_eq_true rfl⟩) (wy_preV 0 (hP.sub (ws' := [(mm, .inr (5, [.int th, .ref u1, .int (nI n), .int (nI pp), .int wr, .ref u5, .ref u6, .ref u7, .ref u8, .ref u9, .ref u10, .ref u11, .int (nI cn), .ref u13, .int (nI hc), .ref u15, .ref u16, .ref u17, .ref u18, .ref u19, .ref u20, .int (nI ns), .ref u22, .int (nI pz)])), (u1, .inl (cB, 120, .inl tb))]) [0, 1] rfl) (hK.sub (tys' := [(cB, .byte)]) [0] rfl) hN (ci := 5) rfl rfl rfl) rfl rfl hl.1 rfl (lv_room (Nat.le_of_ble_eq_true rfl)) d_Mo_space_5 ⟨Nat.le_of_ble_eq_true rfl, Nat.le_of_ble_eq_true rfl⟩).run (fun r_5 h_5 => ?_)
  subst h_5
  refine lv_bipush (v := 32) hx hb d_Mo_space_8 (by decide) ?_
  refine lv_icmp_eq (tgt := 22) hx hb d_Mo_space_10 (by decide) (fun c_10 => ?_) (fun c_10 => ?_)
  · refine lv_aload_n hx hb d_Mo_space_22 rfl (lv_at hl 0 rfl) ?_
    refine lv_dup hx hb d_Mo_space_23 rfl ?_
    refine va_get (D := (dC, dI)) (ci := 5) (v := .int (nI pp)) (C := "PatternTextModel") (T := F_Mo) (N := 24) hx hb hts iw_Mo hown hK hP 0 rfl rfl 3 (by decide) (hts _ kw_563) (fun _ h9 => h9) rfl d_Mo_space_24 ?_
    refine lv_iconst (v := 1) hx hb d_Mo_space_27 (by decide) ?_
    refine wy_iadd hx hb pp 1 d_Mo_space_28 ?_
    refine va_put (D := (dC, dI)) (ci := 5) (v := .int (nI (pp + 1))) (ty := .int) (C := "PatternTextModel") (T := F_Mo) (N := 24) hx hb hts iw_Mo t_Mo t_Mo_ok n_Mo hown hK hP hD hS 0 rfl rfl 3 (by decide) (hts _ kw_563) (fun _ h9 => h9) rfl (by decide +kernel) rfl rfl (Nat.le_of_ble_eq_true rfl) d_Mo_space_29 (fun H locs hP hD hS => ?_)
    have hP : va_P (dC, dI) ga_cl [(mm, .inr (5, [.int th, .ref u1, .int (nI n), .int (nI (pp + 1)), .int wr, .ref u5, .ref u6, .ref u7, .ref u8, .ref u9, .ref u10, .ref u11, .int (nI cn), .ref u13, .int (nI hc), .ref u15, .ref u16, .ref u17, .ref u18, .ref u19, .ref u20, .int (nI ns), .ref u22, .int (nI pz)])), (u1, .inl (cB, 120, .inl tb))] H := hP
    have hD : va_D A [(mm, .inr (5, [.int th, .ref u1, .int (nI n), .int (nI (pp + 1)), .int wr, .ref u5, .ref u6, .ref u7, .ref u8, .ref u9, .ref u10, .ref u11, .int (nI cn), .ref u13, .int (nI hc), .ref u15, .ref u16, .ref u17, .ref u18, .ref u19, .ref u20, .int (nI ns), .ref u22, .int (nI pz)])), (u1, .inl (cB, 120, .inl tb))] := hD
    refine lv_iconst (v := 1) hx hb d_Mo_space_32 (by decide) ?_
    rw [hQ]
    have z9 : rd_sp (by8 tb) n pp = true := by unfold rd_sp; first | exact decide_eq_true c_10 | exact decide_eq_false c_10
    have q9 : (1 : Int32) = bo_I (rd_sp (by8 tb) n pp) := by rw [z9]; rfl
    have e9 : ([(mm, .inr (5, [.int th, .ref u1, .int (nI n), .int (nI (cond (rd_sp (by8 tb) n pp) (pp + 1) pp)), .int (cond (rd_sp (by8 tb) n pp) wr (nI pp)), .ref u5, .ref u6, .ref u7, .ref u8, .ref u9, .ref u10, .ref u11, .int (nI cn), .ref u13, .int (nI hc), .ref u15, .ref u16, .ref u17, .ref u18, .ref u19, .ref u20, .int (nI ns), .ref u22, .int (nI pz)])), (u1, .inl (cB, 120, .inl tb))] : va_W) = [(mm, .inr (5, [.int th, .ref u1, .int (nI n), .int (nI (pp + 1)), .int wr, .ref u5, .ref u6, .ref u7, .ref u8, .ref u9, .ref u10, .ref u11, .int (nI cn), .ref u13, .int (nI hc), .ref u15, .ref u16, .ref u17, .ref u18, .ref u19, .ref u20, .int (nI ns), .ref u22, .int (nI pz)])), (u1, .inl (cB, 120, .inl tb))] := by rw [z9] <;> rfl
    exact W.zret (v := 1) hx hb hr rfl (fun t ht hW => ⟨⟨_, (), rfl, q9, by rw [ht, e9]; exact hP, va_K.moved hW.alike hK, by rw [e9]; exact hD⟩, hS.F ht⟩) hS.2.2 d_Mo_space_33
  · refine lv_aload_n hx hb d_Mo_space_13 rfl (lv_at hl 0 rfl) ?_
    refine lv_aload_n hx hb d_Mo_space_14 rfl (lv_at hl 0 rfl) ?_
    refine va_get (D := (dC, dI)) (ci := 5) (v := .int (nI pp)) (C := "PatternTextModel") (T := F_Mo) (N := 24) hx hb hts iw_Mo hown hK hP 0 rfl rfl 3 (by decide) (hts _ kw_563) (fun _ h9 => h9) rfl d_Mo_space_15 ?_
    refine wy_calli (wr := [(u1, .inl (cB, 120, .inl tb))]) (w1 := [(mm, .inr (5, [.int th, .ref u1, .int (nI n), .int (nI pp), .int (nI pp), .ref u5, .ref u6, .ref u7, .ref u8, .ref u9, .ref u10, .ref u11, .int (nI cn), .ref u13, .int (nI hc), .ref u15, .ref u16, .ref u17, .ref u18, .ref u19, .ref u20, .int (nI ns), .ref u22, .int (nI pz)]))]) (va_runV (As := [.int (nI pp)]) (rest := []) ⟨hx, hb, hml, hown, hts⟩ (c_Mo_bad l dC dI s.heap.size mm u1 u5 u6 u7 u8 u9 u10 u11 u13 u15 u16 u17 u18 u19 u20 u22 th n (nI pp) wr cn hc ns pz (nI pp) ) (cwV 1 hts (ga_V kw_669 kw_671 kw_20 kw_38 (ga_in kw_672)) rfl rfl rfl (by decide +kernel) ⟨Nat.le_of_ble_eq_true rfl, Nat.le_of_ble_eq_true rfl⟩) (wy_mreV 0 (hP.sub (ws' := [(mm, .inr (5, [.int th, .ref u1, .int (nI n), .int (nI pp), .int wr, .ref u5, .ref u6, .ref u7, .ref u8, .ref u9, .ref u10, .ref u11, .int (nI cn), .ref u13, .int (nI hc), .ref u15, .ref u16, .ref u17, .ref u18, .ref u19, .ref u20, .int (nI ns), .ref u22, .int (nI pz)]))]) [0] rfl) (hK.sub (tys' := []) [] rfl) hN (hD.sub (ws' := [(mm, .inr (5, [.int th, .ref u1, .int (nI n), .int (nI pp), .int wr, .ref u5, .ref u6, .ref u7, .ref u8, .ref u9, .ref u10, .ref u11, .int (nI cn), .ref u13, .int (nI hc), .ref u15, .ref u16, .ref u17, .ref u18, .ref u19, .ref u20, .int (nI ns), .ref u22, .int (nI pz)]))]) [0] (by decide) rfl) (ci := 5) rfl rfl rfl) rfl rfl hl.1 rfl (lv_room (Nat.le_of_ble_eq_true rfl)) d_Mo_space_18 ⟨Nat.le_of_ble_eq_true rfl, Nat.le_of_ble_eq_true rfl⟩) hP hD hS hA [0] [1] rfl rfl (by decide) (by decide) (fun H locs hP hD hS => ?_)
    have hP := hP.sub (ws' := [(mm, .inr (5, [.int th, .ref u1, .int (nI n), .int (nI pp), .int (nI pp), .ref u5, .ref u6, .ref u7, .ref u8, .ref u9, .ref u10, .ref u11, .int (nI cn), .ref u13, .int (nI hc), .ref u15, .ref u16, .ref u17, .ref u18, .ref u19, .ref u20, .int (nI ns), .ref u22, .int (nI pz)])), (u1, .inl (cB, 120, .inl tb))]) [1, 0] rfl
    have hD := hD.sub (ws' := [(mm, .inr (5, [.int th, .ref u1, .int (nI n), .int (nI pp), .int (nI pp), .ref u5, .ref u6, .ref u7, .ref u8, .ref u9, .ref u10, .ref u11, .int (nI cn), .ref u13, .int (nI hc), .ref u15, .ref u16, .ref u17, .ref u18, .ref u19, .ref u20, .int (nI ns), .ref u22, .int (nI pz)])), (u1, .inl (cB, 120, .inl tb))]) [1, 0] (by decide) rfl
    rw [hQ]
    have z9 : rd_sp (by8 tb) n pp = false := by unfold rd_sp; first | exact decide_eq_true c_10 | exact decide_eq_false c_10
    have q9 : (0 : Int32) = bo_I (rd_sp (by8 tb) n pp) := by rw [z9]; rfl
    have e9 : ([(mm, .inr (5, [.int th, .ref u1, .int (nI n), .int (nI (cond (rd_sp (by8 tb) n pp) (pp + 1) pp)), .int (cond (rd_sp (by8 tb) n pp) wr (nI pp)), .ref u5, .ref u6, .ref u7, .ref u8, .ref u9, .ref u10, .ref u11, .int (nI cn), .ref u13, .int (nI hc), .ref u15, .ref u16, .ref u17, .ref u18, .ref u19, .ref u20, .int (nI ns), .ref u22, .int (nI pz)])), (u1, .inl (cB, 120, .inl tb))] : va_W) = [(mm, .inr (5, [.int th, .ref u1, .int (nI n), .int (nI pp), .int (nI pp), .ref u5, .ref u6, .ref u7, .ref u8, .ref u9, .ref u10, .ref u11, .int (nI cn), .ref u13, .int (nI hc), .ref u15, .ref u16, .ref u17, .ref u18, .ref u19, .ref u20, .int (nI ns), .ref u22, .int (nI pz)])), (u1, .inl (cB, 120, .inl tb))] := by rw [z9] <;> rfl
    exact W.zret (v := 0) hx hb hr rfl (fun t ht hW => ⟨⟨_, (), rfl, q9, by rw [ht, e9]; exact hP, va_K.moved hW.alike hK, by rw [e9]; exact hD⟩, hS.F ht⟩) hS.2.2 d_Mo_space_21

set_option maxHeartbeats 4000000 in
set_option maxRecDepth 100000 in
theorem c_Mo_isPattern (l : Launch) (dC : Nat → ClassId) (dI : Nat → Nat → Nat) (mm : Nat) (u1 : Nat) (u5 : Nat) (u6 : Nat) (u7 : Nat) (u8 : Nat) (u9 : Nat) (u10 : Nat) (u11 : Nat) (u13 : Nat) (u15 : Nat) (u16 : Nat) (u17 : Nat) (u18 : Nat) (u19 : Nat) (u20 : Nat) (u22 : Nat) (th : Int32) (n : Nat) (pv : Int32) (wr : Int32) (cn : Nat) (hc : Nat) (ns : Nat) (pz : Nat) (x : Int32) : Met l y_Mo_isPattern w_Mo_isPattern ({ frames := 0, cells := 0, slots := 0, locals := 0 }) (va_Pc [.ref mm, .int x] (wy_R (dC, dI) ga_cl [(mm, .inr (5, [.int th, .ref u1, .int (nI n), .int pv, .int wr, .ref u5, .ref u6, .ref u7, .ref u8, .ref u9, .ref u10, .ref u11, .int (nI cn), .ref u13, .int (nI hc), .ref u15, .ref u16, .ref u17, .ref u18, .ref u19, .ref u20, .int (nI ns), .ref u22, .int (nI pz)]))] [])) (vp_Si (fun r => r = bo_I (li_has cn x))) 0 0 (fun _ => False) := by
  refine Met.ofW (cc := b_Mo_isPattern) (maxL := 2) (ret := (some .boolean)) (by decide) rfl ?_
  intro p e s m args below meth c s₁ B hml hv
  obtain ⟨rfl, hP, hK, hN⟩ := hv
  have hx := B.exec
  have hb := B.bytes
  have hr := B.returns
  have hts : ∀ w ∈ ga_tbl, w.before _ s = true := fun w h => atoms_spec (ws := w_Mo_isPattern) B.pre w (List.mem_cons_of_mem _ h)
  have hown : s.vm.findClass "PatternTextModel" = some m.cls := findClass_of_methodNamed B.named
  have hlocks := B.notSynchronized
  have hl := lv_entry ([.ref mm, .int x]) (n := 2) (Nat.le_of_ble_eq_true rfl)
  rw [lg_entry_eq]
  generalize (lg_sl ([.ref mm, .int x]) ++ List.replicate (2 - (lg_sl ([.ref mm, .int x])).length) Slot.unset).toArray = ls at hl ⊢
  have hl : lv_has ls 2 [(0, .ref mm), (1, .int x)] := hl
  refine lv_iload_n hx hb d_Mo_isPattern_0 rfl (lv_at hl 1 rfl) ?_
  refine lv_if_lt (tgt := 16) hx hb d_Mo_isPattern_1 (by decide) (fun c_1 => ?_) (fun c_1 => ?_)
  · refine lv_iconst (v := 0) hx hb d_Mo_isPattern_16 (by decide) ?_
    have z9 : li_has cn x = false := by simp only [li_has, Bool.and_eq_false_iff, decide_eq_false_iff_not]; first | exact Or.inl (Int32.not_le.mpr c_1) | exact Or.inr (Int32.not_lt.mpr c_9)
    have q9 : (0 : Int32) = bo_I (li_has cn x) := by rw [z9]; rfl
    exact W.zret (v := 0) hx hb hr rfl (fun t ht _ => ⟨_, rfl, q9, ht⟩) (fun _ h9 => by cases h9) d_Mo_isPattern_17
  · refine lv_iload_n hx hb d_Mo_isPattern_4 rfl (lv_at hl 1 rfl) ?_
    refine lv_aload_n hx hb d_Mo_isPattern_5 rfl (lv_at hl 0 rfl) ?_
    refine va_get (D := (dC, dI)) (ci := 5) (v := .int (nI cn)) (C := "PatternTextModel") (T := F_Mo) (N := 24) hx hb hts iw_Mo hown hK hP 0 rfl rfl 12 (by decide) (hts _ kw_572) (fun _ h9 => h9) rfl d_Mo_isPattern_6 ?_
    refine lv_icmp_ge (tgt := 16) hx hb d_Mo_isPattern_9 (by decide) (fun c_9 => ?_) (fun c_9 => ?_)
    · refine lv_iconst (v := 0) hx hb d_Mo_isPattern_16 (by decide) ?_
      have z9 : li_has cn x = false := by simp only [li_has, Bool.and_eq_false_iff, decide_eq_false_iff_not]; first | exact Or.inl (Int32.not_le.mpr c_1) | exact Or.inr (Int32.not_lt.mpr c_9)
      have q9 : (0 : Int32) = bo_I (li_has cn x) := by rw [z9]; rfl
      exact W.zret (v := 0) hx hb hr rfl (fun t ht _ => ⟨_, rfl, q9, ht⟩) (fun _ h9 => by cases h9) d_Mo_isPattern_17
    · refine lv_iconst (v := 1) hx hb d_Mo_isPattern_12 (by decide) ?_
      refine lv_goto (tgt := 17) hx hb d_Mo_isPattern_13 (by decide) ?_
      have z9 : li_has cn x = true := by simp only [li_has, Bool.and_eq_true, decide_eq_true_eq]; exact ⟨Int32.not_lt.mp c_1, Int32.not_le.mp c_9⟩
      have q9 : (1 : Int32) = bo_I (li_has cn x) := by rw [z9]; rfl
      exact W.zret (v := 1) hx hb hr rfl (fun t ht _ => ⟨_, rfl, q9, ht⟩) (fun _ h9 => by cases h9) d_Mo_isPattern_17

set_option maxHeartbeats 4000000 in
set_option maxRecDepth 100000 in
theorem c_Mo_isIssue (l : Launch) (dC : Nat → ClassId) (dI : Nat → Nat → Nat) (mm : Nat) (u1 : Nat) (u5 : Nat) (u6 : Nat) (u7 : Nat) (u8 : Nat) (u9 : Nat) (u10 : Nat) (u11 : Nat) (u13 : Nat) (u15 : Nat) (u16 : Nat) (u17 : Nat) (u18 : Nat) (u19 : Nat) (u20 : Nat) (u22 : Nat) (th : Int32) (n : Nat) (pv : Int32) (wr : Int32) (cn : Nat) (hc : Nat) (ns : Nat) (pz : Nat) (x : Int32) : Met l y_Mo_isIssue w_Mo_isIssue ({ frames := 0, cells := 0, slots := 0, locals := 0 }) (va_Pc [.ref mm, .int x] (wy_R (dC, dI) ga_cl [(mm, .inr (5, [.int th, .ref u1, .int (nI n), .int pv, .int wr, .ref u5, .ref u6, .ref u7, .ref u8, .ref u9, .ref u10, .ref u11, .int (nI cn), .ref u13, .int (nI hc), .ref u15, .ref u16, .ref u17, .ref u18, .ref u19, .ref u20, .int (nI ns), .ref u22, .int (nI pz)]))] [])) (vp_Si (fun r => r = bo_I (li_has ns x))) 0 0 (fun _ => False) := by
  refine Met.ofW (cc := b_Mo_isIssue) (maxL := 2) (ret := (some .boolean)) (by decide) rfl ?_
  intro p e s m args below meth c s₁ B hml hv
  obtain ⟨rfl, hP, hK, hN⟩ := hv
  have hx := B.exec
  have hb := B.bytes
  have hr := B.returns
  have hts : ∀ w ∈ ga_tbl, w.before _ s = true := fun w h => atoms_spec (ws := w_Mo_isIssue) B.pre w (List.mem_cons_of_mem _ h)
  have hown : s.vm.findClass "PatternTextModel" = some m.cls := findClass_of_methodNamed B.named
  have hlocks := B.notSynchronized
  have hl := lv_entry ([.ref mm, .int x]) (n := 2) (Nat.le_of_ble_eq_true rfl)
  rw [lg_entry_eq]
  generalize (lg_sl ([.ref mm, .int x]) ++ List.replicate (2 - (lg_sl ([.ref mm, .int x])).length) Slot.unset).toArray = ls at hl ⊢
  have hl : lv_has ls 2 [(0, .ref mm), (1, .int x)] := hl
  refine lv_iload_n hx hb d_Mo_isIssue_0 rfl (lv_at hl 1 rfl) ?_
  refine lv_if_lt (tgt := 16) hx hb d_Mo_isIssue_1 (by decide) (fun c_1 => ?_) (fun c_1 => ?_)
  · refine lv_iconst (v := 0) hx hb d_Mo_isIssue_16 (by decide) ?_
    have z9 : li_has ns x = false := by simp only [li_has, Bool.and_eq_false_iff, decide_eq_false_iff_not]; first | exact Or.inl (Int32.not_le.mpr c_1) | exact Or.inr (Int32.not_lt.mpr c_9)
    have q9 : (0 : Int32) = bo_I (li_has ns x) := by rw [z9]; rfl
    exact W.zret (v := 0) hx hb hr rfl (fun t ht _ => ⟨_, rfl, q9, ht⟩) (fun _ h9 => by cases h9) d_Mo_isIssue_17
  · refine lv_iload_n hx hb d_Mo_isIssue_4 rfl (lv_at hl 1 rfl) ?_
    refine lv_aload_n hx hb d_Mo_isIssue_5 rfl (lv_at hl 0 rfl) ?_
    refine va_get (D := (dC, dI)) (ci := 5) (v := .int (nI ns)) (C := "PatternTextModel") (T := F_Mo) (N := 24) hx hb hts iw_Mo hown hK hP 0 rfl rfl 21 (by decide) (hts _ kw_581) (fun _ h9 => h9) rfl d_Mo_isIssue_6 ?_
    refine lv_icmp_ge (tgt := 16) hx hb d_Mo_isIssue_9 (by decide) (fun c_9 => ?_) (fun c_9 => ?_)
    · refine lv_iconst (v := 0) hx hb d_Mo_isIssue_16 (by decide) ?_
      have z9 : li_has ns x = false := by simp only [li_has, Bool.and_eq_false_iff, decide_eq_false_iff_not]; first | exact Or.inl (Int32.not_le.mpr c_1) | exact Or.inr (Int32.not_lt.mpr c_9)
      have q9 : (0 : Int32) = bo_I (li_has ns x) := by rw [z9]; rfl
      exact W.zret (v := 0) hx hb hr rfl (fun t ht _ => ⟨_, rfl, q9, ht⟩) (fun _ h9 => by cases h9) d_Mo_isIssue_17
    · refine lv_iconst (v := 1) hx hb d_Mo_isIssue_12 (by decide) ?_
      refine lv_goto (tgt := 17) hx hb d_Mo_isIssue_13 (by decide) ?_
      have z9 : li_has ns x = true := by simp only [li_has, Bool.and_eq_true, decide_eq_true_eq]; exact ⟨Int32.not_lt.mp c_1, Int32.not_le.mp c_9⟩
      have q9 : (1 : Int32) = bo_I (li_has ns x) := by rw [z9]; rfl
      exact W.zret (v := 1) hx hb hr rfl (fun t ht _ => ⟨_, rfl, q9, ht⟩) (fun _ h9 => by cases h9) d_Mo_isIssue_17

set_option maxHeartbeats 4000000 in
set_option maxRecDepth 100000 in
theorem c_Mo_isHoliday (l : Launch) (dC : Nat → ClassId) (dI : Nat → Nat → Nat) (mm : Nat) (u1 : Nat) (u5 : Nat) (u6 : Nat) (u7 : Nat) (u8 : Nat) (u9 : Nat) (u10 : Nat) (u11 : Nat) (u13 : Nat) (u15 : Nat) (u16 : Nat) (u17 : Nat) (u18 : Nat) (u19 : Nat) (u20 : Nat) (u22 : Nat) (th : Int32) (n : Nat) (pv : Int32) (wr : Int32) (cn : Nat) (hc : Nat) (ns : Nat) (pz : Nat) (cI : ClassId) (hd : Nat → Int32) (x : Int32) (hh : hc ≤ 60) : Met l y_Mo_isHoliday w_Mo_isHoliday ({ frames := 0, cells := 0, slots := 0, locals := 0 }) (va_Pc [.ref mm, .int x] (wy_R (dC, dI) ga_cl [(mm, .inr (5, [.int th, .ref u1, .int (nI n), .int pv, .int wr, .ref u5, .ref u6, .ref u7, .ref u8, .ref u9, .ref u10, .ref u11, .int (nI cn), .ref u13, .int (nI hc), .ref u15, .ref u16, .ref u17, .ref u18, .ref u19, .ref u20, .int (nI ns), .ref u22, .int (nI pz)])), (u13, .inl (cI, 60, .inl hd))] [(cI, .int)])) (vp_Si (fun r => r = bo_I (mo_hol hd x hc 0 false))) 0 0 (fun _ => False) := by
  refine Met.ofW (cc := b_Mo_isHoliday) (maxL := 4) (ret := (some .boolean)) (by decide) rfl ?_
  intro p e s m args below meth c s₁ B hml hv
  obtain ⟨rfl, hP, hK, hN⟩ := hv
  have hx := B.exec
  have hb := B.bytes
  have hr := B.returns
  have hts : ∀ w ∈ ga_tbl, w.before _ s = true := fun w h => atoms_spec (ws := w_Mo_isHoliday) B.pre w (List.mem_cons_of_mem _ h)
  have hown : s.vm.findClass "PatternTextModel" = some m.cls := findClass_of_methodNamed B.named
  have hlocks := B.notSynchronized
  have hl := lv_entry ([.ref mm, .int x]) (n := 4) (Nat.le_of_ble_eq_true rfl)
  rw [lg_entry_eq]
  generalize (lg_sl ([.ref mm, .int x]) ++ List.replicate (4 - (lg_sl ([.ref mm, .int x])).length) Slot.unset).toArray = ls at hl ⊢
  have hl : lv_has ls 4 [(0, .ref mm), (1, .int x)] := hl
  obtain ⟨Q0, hQ⟩ : ∃ Q0 : State → Prop, Q0 = MQ below (vp_Si (fun r => r = bo_I (mo_hol hd x hc 0 false))) ([.ref mm, .int x] : List Value).toArray s 0 0 (fun _ => False) := ⟨_, rfl⟩
  show W p l e ({ frames := 0, cells := 0, slots := 0, locals := 0 }) s m ([.ref mm, .int x] : List Value).toArray below meth c s.heap [] 0 0 (MQ below (vp_Si (fun r => r = bo_I (mo_hol hd x hc 0 false))) ([.ref mm, .int x] : List Value).toArray s 0 0 (fun _ => False)) (F0 m 0 ls [])
  rw [← hQ]
  refine lv_iconst (v := 0) hx hb d_Mo_isHoliday_0 (by decide) ?_
  refine lv_istore_n (lv' := [(2, .int 0), (0, .ref mm), (1, .int x)]) hx hb d_Mo_isHoliday_1 rfl hl (by decide) rfl (fun ls hl => ?_)
  refine lv_iconst (v := 0) hx hb d_Mo_isHoliday_2 (by decide) ?_
  refine lv_istore_n (lv' := [(3, .int 0), (2, .int 0), (0, .ref mm), (1, .int x)]) hx hb d_Mo_isHoliday_3 rfl hl (by decide) rfl (fun ls hl => ?_)
  have loop_4 : ∀ (fu : Nat) (k : Nat) (b : Bool), (k ≤ hc) → (mo_hol hd x (hc - k) k b = mo_hol hd x hc 0 false) → hc - k < fu → ∀ (ls : Array Slot), lv_has ls 4 [(0, .ref mm), (1, .int x), (2, .int (bo_I b)), (3, .int (nI k))] → W p l e ({ frames := 0, cells := 0, slots := 0, locals := 0 }) s m ([.ref mm, .int x] : List Value).toArray below meth c s.heap [] 0 0 Q0 (F0 m 4 ls []) := by
    intro fu
    induction fu with
    | zero => intro k b h1 hR hmu; exact absurd hmu (Nat.not_lt_zero _)
    | succ fu ih_4 =>
      intro k b h1 hR hmu ls hl
      refine lv_iload_n hx hb d_Mo_isHoliday_4 rfl (lv_at hl 3 rfl) ?_
      refine lv_aload_n hx hb d_Mo_isHoliday_5 rfl (lv_at hl 0 rfl) ?_
      refine va_get (D := (dC, dI)) (ci := 5) (v := .int (nI hc)) (C := "PatternTextModel") (T := F_Mo) (N := 24) hx hb hts iw_Mo hown hK hP 0 rfl rfl 14 (by decide) (hts _ kw_574) (fun _ h9 => h9) rfl d_Mo_isHoliday_6 ?_
      refine wy_icmp_ge (tgt := 38) hx hb k hc (by omega) (by omega) d_Mo_isHoliday_9 (by decide) (fun c_9 => ?_) (fun c_9 => ?_)
      · refine lv_iload_n hx hb d_Mo_isHoliday_38 rfl (lv_at hl 2 rfl) ?_
        rw [hQ]
        have z9 : mo_hol hd x hc 0 false = b := by rw [← hR]; exact mo_hol_0 c_9
        have q9 : (bo_I b : Int32) = bo_I (mo_hol hd x hc 0 false) := by rw [z9]
        exact W.zret (v := bo_I b) hx hb hr (bo_nar _) (fun t ht _ => ⟨_, rfl, q9, ht⟩) (fun _ h9 => by cases h9) d_Mo_isHoliday_39
      · refine lv_iload_n hx hb d_Mo_isHoliday_12 rfl (lv_at hl 2 rfl) ?_
        refine wy_ifneB (tgt := 26) hx hb d_Mo_isHoliday_13 (by decide) (fun c_13 => ?_) (fun c_13 => ?_)
        · refine lv_iconst (v := 1) hx hb d_Mo_isHoliday_26 (by decide) ?_
          refine lv_goto (tgt := 31) hx hb d_Mo_isHoliday_27 (by decide) ?_
          refine lv_istore_n (lv' := [(2, .int 1), (0, .ref mm), (1, .int x), (3, .int (nI k))]) hx hb d_Mo_isHoliday_31 rfl hl (by decide) rfl (fun ls hl => ?_)
          refine wy_iinc (x := k) (lv' := [(3, .int (nI (k + 1))), (2, .int 1), (0, .ref mm), (1, .int x)]) hx hb d_Mo_isHoliday_32 hl (k := 3) rfl (by decide) rfl (fun ls hl => ?_)
          refine lv_goto (tgt := 4) hx hb d_Mo_isHoliday_35 (by decide) ?_
          exact ih_4 (k + 1) true (by omega) (by rw [← hR, mo_hol_go c_9, c_13]; first | rfl | (rw [decide_eq_true c_23]; rfl) | (rw [decide_eq_false c_23]; rfl)) (by omega) ls (lv_sub hl [2, 3, 1, 0] rfl)
        · refine lv_aload_n hx hb d_Mo_isHoliday_16 rfl (lv_at hl 0 rfl) ?_
          refine va_get (D := (dC, dI)) (ci := 5) (v := .ref u13) (C := "PatternTextModel") (T := F_Mo) (N := 24) hx hb hts iw_Mo hown hK hP 0 rfl rfl 13 (by decide) (hts _ kw_573) (fun _ h9 => h9) rfl d_Mo_isHoliday_17 ?_
          refine lv_iload_n hx hb d_Mo_isHoliday_20 rfl (lv_at hl 3 rfl) ?_
          refine wy_iald hx hb hK hP 1 0 k rfl rfl (by omega) (by omega) d_Mo_isHoliday_21 ?_
          refine lv_iload_n hx hb d_Mo_isHoliday_22 rfl (lv_at hl 1 rfl) ?_
          refine lv_icmp_ne (tgt := 30) hx hb d_Mo_isHoliday_23 (by decide) (fun c_23 => ?_) (fun c_23 => ?_)
          · refine lv_iconst (v := 0) hx hb d_Mo_isHoliday_30 (by decide) ?_
            refine lv_istore_n (lv' := [(2, .int 0), (0, .ref mm), (1, .int x), (3, .int (nI k))]) hx hb d_Mo_isHoliday_31 rfl hl (by decide) rfl (fun ls hl => ?_)
            refine wy_iinc (x := k) (lv' := [(3, .int (nI (k + 1))), (2, .int 0), (0, .ref mm), (1, .int x)]) hx hb d_Mo_isHoliday_32 hl (k := 3) rfl (by decide) rfl (fun ls hl => ?_)
            refine lv_goto (tgt := 4) hx hb d_Mo_isHoliday_35 (by decide) ?_
            exact ih_4 (k + 1) false (by omega) (by rw [← hR, mo_hol_go c_9, c_13]; first | rfl | (rw [decide_eq_true c_23]; rfl) | (rw [decide_eq_false c_23]; rfl)) (by omega) ls (lv_sub hl [2, 3, 1, 0] rfl)
          · refine lv_iconst (v := 1) hx hb d_Mo_isHoliday_26 (by decide) ?_
            refine lv_goto (tgt := 31) hx hb d_Mo_isHoliday_27 (by decide) ?_
            refine lv_istore_n (lv' := [(2, .int 1), (0, .ref mm), (1, .int x), (3, .int (nI k))]) hx hb d_Mo_isHoliday_31 rfl hl (by decide) rfl (fun ls hl => ?_)
            refine wy_iinc (x := k) (lv' := [(3, .int (nI (k + 1))), (2, .int 1), (0, .ref mm), (1, .int x)]) hx hb d_Mo_isHoliday_32 hl (k := 3) rfl (by decide) rfl (fun ls hl => ?_)
            refine lv_goto (tgt := 4) hx hb d_Mo_isHoliday_35 (by decide) ?_
            exact ih_4 (k + 1) true (by omega) (by rw [← hR, mo_hol_go c_9, c_13]; first | rfl | (rw [decide_eq_true c_23]; rfl) | (rw [decide_eq_false c_23]; rfl)) (by omega) ls (lv_sub hl [2, 3, 1, 0] rfl)
  exact loop_4 _ 0 false (by omega) (rfl) (Nat.lt_succ_self _) ls (lv_sub hl [2, 3, 1, 0] rfl)

set_option maxHeartbeats 4000000 in
set_option maxRecDepth 100000 in
theorem c_Mo_holiday (l : Launch) (dC : Nat → ClassId) (dI : Nat → Nat → Nat) (sz : Nat) (mm : Nat) (u1 : Nat) (u5 : Nat) (u6 : Nat) (u7 : Nat) (u8 : Nat) (u9 : Nat) (u10 : Nat) (u11 : Nat) (u13 : Nat) (u15 : Nat) (u16 : Nat) (u17 : Nat) (u18 : Nat) (u19 : Nat) (u20 : Nat) (u22 : Nat) (th : Int32) (n : Nat) (pv : Int32) (wr : Int32) (cn : Nat) (hc : Nat) (ns : Nat) (pz : Nat) (cI : ClassId) (hd : Nat → Int32) (x : Int32) (hh : hc ≤ 60) : Met l y_Mo_holiday w_Mo_holiday ({ frames := 1, cells := 0, slots := 0, locals := 23 }) (va_Pc [.ref mm, .int x] (wy_M (dC, dI) ga_cl [(mm, .inr (5, [.int th, .ref u1, .int (nI n), .int pv, .int wr, .ref u5, .ref u6, .ref u7, .ref u8, .ref u9, .ref u10, .ref u11, .int (nI cn), .ref u13, .int (nI hc), .ref u15, .ref u16, .ref u17, .ref u18, .ref u19, .ref u20, .int (nI ns), .ref u22, .int (nI pz)])), (u13, .inl (cI, 60, .inl hd))] [(cI, .int)] sz)) (va_Qi (fun (r : Int32) (_ : Unit) => r = cond (mo_day x && (!mo_hol hd x hc 0 false && decide (hc < 60))) (nI (hc + 1)) 0) (fun _ => wy_N (dC, dI) ga_cl [(cI, .int)] (va_A [(mm, .inr (5, [.int th, .ref u1, .int (nI n), .int pv, .int wr, .ref u5, .ref u6, .ref u7, .ref u8, .ref u9, .ref u10, .ref u11, .int (nI cn), .ref u13, .int (nI hc), .ref u15, .ref u16, .ref u17, .ref u18, .ref u19, .ref u20, .int (nI ns), .ref u22, .int (nI pz)])), (u13, .inl (cI, 60, .inl hd))] sz) [(mm, .inr (5, [.int 0, .ref u1, .int (nI n), .int pv, .int wr, .ref u5, .ref u6, .ref u7, .ref u8, .ref u9, .ref u10, .ref u11, .int (nI cn), .ref u13, .int (nI (cond (mo_day x && (!mo_hol hd x hc 0 false && decide (hc < 60))) (hc + 1) hc)), .ref u15, .ref u16, .ref u17, .ref u18, .ref u19, .ref u20, .int (nI ns), .ref u22, .int (nI pz)])), (u13, .inl (cI, 60, .inl (cond (mo_day x && (!mo_hol hd x hc 0 false && decide (hc < 60))) (upd hd hc x) hd)))]) (va_A [(mm, .inr (5, [.int th, .ref u1, .int (nI n), .int pv, .int wr, .ref u5, .ref u6, .ref u7, .ref u8, .ref u9, .ref u10, .ref u11, .int (nI cn), .ref u13, .int (nI hc), .ref u15, .ref u16, .ref u17, .ref u18, .ref u19, .ref u20, .int (nI ns), .ref u22, .int (nI pz)])), (u13, .inl (cI, 60, .inl hd))] sz)) 0 0 (va_A [(mm, .inr (5, [.int th, .ref u1, .int (nI n), .int pv, .int wr, .ref u5, .ref u6, .ref u7, .ref u8, .ref u9, .ref u10, .ref u11, .int (nI cn), .ref u13, .int (nI hc), .ref u15, .ref u16, .ref u17, .ref u18, .ref u19, .ref u20, .int (nI ns), .ref u22, .int (nI pz)])), (u13, .inl (cI, 60, .inl hd))] sz) := by
  refine Met.ofW (cc := b_Mo_holiday) (maxL := 2) (ret := (some .int)) (by decide) rfl ?_
  intro p e s m args below meth c s₁ B hml hv
  obtain ⟨rfl, hsz, hP, hK, hN, hD0⟩ := hv
  have hx := B.exec
  have hb := B.bytes
  have hr := B.returns
  have hts : ∀ w ∈ ga_tbl, w.before _ s = true := fun w h => atoms_spec (ws := w_Mo_holiday) B.pre w (List.mem_cons_of_mem _ h)
  have hown : s.vm.findClass "PatternTextModel" = some m.cls := findClass_of_methodNamed B.named
  have hlocks := B.notSynchronized
  subst hsz
  have hD := hD0.self (sz := s.heap.size)
  generalize hAe : va_A [(mm, .inr (5, [.int th, .ref u1, .int (nI n), .int pv, .int wr, .ref u5, .ref u6, .ref u7, .ref u8, .ref u9, .ref u10, .ref u11, .int (nI cn), .ref u13, .int (nI hc), .ref u15, .ref u16, .ref u17, .ref u18, .ref u19, .ref u20, .int (nI ns), .ref u22, .int (nI pz)])), (u13, .inl (cI, 60, .inl hd))] s.heap.size = A at hD ⊢
  have hA : ∀ q : Nat, s.heap.size ≤ q → A q := fun q h => by rw [← hAe]; exact Or.inr h
  have hS : va_S A s.heap s.heap [] := va_S.rf
  have hl := lv_entry ([.ref mm, .int x]) (n := 2) (Nat.le_of_ble_eq_true rfl)
  rw [lg_entry_eq]
  generalize (lg_sl ([.ref mm, .int x]) ++ List.replicate (2 - (lg_sl ([.ref mm, .int x])).length) Slot.unset).toArray = ls at hl ⊢
  have hl : lv_has ls 2 [(0, .ref mm), (1, .int x)] := hl
  obtain ⟨Q0, hQ⟩ : ∃ Q0 : State → Prop, Q0 = MQ below (va_Qi (fun (r : Int32) (_ : Unit) => r = cond (mo_day x && (!mo_hol hd x hc 0 false && decide (hc < 60))) (nI (hc + 1)) 0) (fun _ => wy_N (dC, dI) ga_cl [(cI, .int)] A [(mm, .inr (5, [.int 0, .ref u1, .int (nI n), .int pv, .int wr, .ref u5, .ref u6, .ref u7, .ref u8, .ref u9, .ref u10, .ref u11, .int (nI cn), .ref u13, .int (nI (cond (mo_day x && (!mo_hol hd x hc 0 false && decide (hc < 60))) (hc + 1) hc)), .ref u15, .ref u16, .ref u17, .ref u18, .ref u19, .ref u20, .int (nI ns), .ref u22, .int (nI pz)])), (u13, .inl (cI, 60, .inl (cond (mo_day x && (!mo_hol hd x hc 0 false && decide (hc < 60))) (upd hd hc x) hd)))]) A) ([.ref mm, .int x] : List Value).toArray s 0 0 A := ⟨_, rfl⟩
  show W p l e ({ frames := 1, cells := 0, slots := 0, locals := 23 }) s m ([.ref mm, .int x] : List Value).toArray below meth c s.heap [] 0 0 (MQ below (va_Qi (fun (r : Int32) (_ : Unit) => r = cond (mo_day x && (!mo_hol hd x hc 0 false && decide (hc < 60))) (nI (hc + 1)) 0) (fun _ => wy_N (dC, dI) ga_cl [(cI, .int)] A [(mm, .inr (5, [.int 0, .ref u1, .int (nI n), .int pv, .int wr, .ref u5, .ref u6, .ref u7, .ref u8, .ref u9, .ref u10, .ref u11, .int (nI cn), .ref u13, .int (nI (cond (mo_day x && (!mo_hol hd x hc 0 false && decide (hc < 60))) (hc + 1) hc)), .ref u15, .ref u16, .ref u17, .ref u18, .ref u19, .ref u20, .int (nI ns), .ref u22, .int (nI pz)])), (u13, .inl (cI, 60, .inl (cond (mo_day x && (!mo_hol hd x hc 0 false && decide (hc < 60))) (upd hd hc x) hd)))]) A) ([.ref mm, .int x] : List Value).toArray s 0 0 A) (F0 m 0 ls [])
  rw [← hQ]
  refine lv_aload_n hx hb d_Mo_holiday_0 rfl (lv_at hl 0 rfl) ?_
  refine lv_iconst (v := 0) hx hb d_Mo_holiday_1 (by decide) ?_
  refine va_put (D := (dC, dI)) (ci := 5) (v := .int 0) (ty := .int) (C := "PatternTextModel") (T := F_Mo) (N := 24) hx hb hts iw_Mo t_Mo t_Mo_ok n_Mo hown hK hP hD hS 0 rfl rfl 0 (by decide) (hts _ kw_560) (fun _ h9 => h9) rfl (by decide +kernel) rfl rfl (Nat.le_of_ble_eq_true rfl) d_Mo_holiday_2 (fun H locs hP hD hS => ?_)
  have hP : va_P (dC, dI) ga_cl [(mm, .inr (5, [.int 0, .ref u1, .int (nI n), .int pv, .int wr, .ref u5, .ref u6, .ref u7, .ref u8, .ref u9, .ref u10, .ref u11, .int (nI cn), .ref u13, .int (nI hc), .ref u15, .ref u16, .ref u17, .ref u18, .ref u19, .ref u20, .int (nI ns), .ref u22, .int (nI pz)])), (u13, .inl (cI, 60, .inl hd))] H := hP
  have hD : va_D A [(mm, .inr (5, [.int 0, .ref u1, .int (nI n), .int pv, .int wr, .ref u5, .ref u6, .ref u7, .ref u8, .ref u9, .ref u10, .ref u11, .int (nI cn), .ref u13, .int (nI hc), .ref u15, .ref u16, .ref u17, .ref u18, .ref u19, .ref u20, .int (nI ns), .ref u22, .int (nI pz)])), (u13, .inl (cI, 60, .inl hd))] := hD
  refine lv_iload_n hx hb d_Mo_holiday_5 rfl (lv_at hl 1 rfl) ?_
  refine vp_callSi (va_runS (As := [.int x]) (rest := []) ⟨hx, hb, hml, hown, hts⟩ (c_Mo_isDay l dC dI x ) (cwS 1 hts (ga_S kw_703 kw_704 kw_38 (ga_in kw_705)) rfl rfl rfl (by decide +kernel) ⟨Nat.le_of_ble_eq_true rfl, Nat.le_of_ble_eq_true rfl⟩) (wy_preS (hP.sub (ws' := []) [] rfl) (hK.sub (tys' := []) [] rfl) hN) rfl rfl hl.1 rfl (lv_room (Nat.le_of_ble_eq_true rfl)) d_Mo_holiday_6 ⟨Nat.le_of_ble_eq_true rfl, Nat.le_of_ble_eq_true rfl⟩).run (fun r_6 h_6 => ?_)
  subst h_6
  refine wy_ifeqB (tgt := 29) hx hb d_Mo_holiday_9 (by decide) (fun c_9 => ?_) (fun c_9 => ?_)
  · refine lv_iconst (v := 0) hx hb d_Mo_holiday_29 (by decide) ?_
    rw [hQ]
    have z9 : (mo_day x && (!mo_hol hd x hc 0 false && decide (hc < 60))) = false := by first | (rw [c_9]; rfl) | (rw [c_9, c_17]; rfl) | (rw [c_9, c_17, decide_eq_false (by omega)]; rfl)
    have q9 : (0 : Int32) = cond (mo_day x && (!mo_hol hd x hc 0 false && decide (hc < 60))) (nI (hc + 1)) 0 := by rw [z9]; rfl
    have e9 : ([(mm, .inr (5, [.int 0, .ref u1, .int (nI n), .int pv, .int wr, .ref u5, .ref u6, .ref u7, .ref u8, .ref u9, .ref u10, .ref u11, .int (nI cn), .ref u13, .int (nI (cond (mo_day x && (!mo_hol hd x hc 0 false && decide (hc < 60))) (hc + 1) hc)), .ref u15, .ref u16, .ref u17, .ref u18, .ref u19, .ref u20, .int (nI ns), .ref u22, .int (nI pz)])), (u13, .inl (cI, 60, .inl (cond (mo_day x && (!mo_hol hd x hc 0 false && decide (hc < 60))) (upd hd hc x) hd)))] : va_W) = [(mm, .inr (5, [.int 0, .ref u1, .int (nI n), .int pv, .int wr, .ref u5, .ref u6, .ref u7, .ref u8, .ref u9, .ref u10, .ref u11, .int (nI cn), .ref u13, .int (nI hc), .ref u15, .ref u16, .ref u17, .ref u18, .ref u19, .ref u20, .int (nI ns), .ref u22, .int (nI pz)])), (u13, .inl (cI, 60, .inl hd))] := by rw [z9] <;> rfl
    exact W.iret (v := 0) hx hb hr (fun t ht hW => ⟨⟨_, (), rfl, q9, by rw [ht, e9]; exact hP, va_K.moved hW.alike hK, by rw [e9]; exact hD⟩, hS.F ht⟩) hS.2.2 d_Mo_holiday_30
  · refine lv_aload_n hx hb d_Mo_holiday_12 rfl (lv_at hl 0 rfl) ?_
    refine lv_iload_n hx hb d_Mo_holiday_13 rfl (lv_at hl 1 rfl) ?_
    refine vp_callSi (va_runV (As := [.int x]) (rest := []) ⟨hx, hb, hml, hown, hts⟩ (c_Mo_isHoliday l dC dI mm u1 u5 u6 u7 u8 u9 u10 u11 u13 u15 u16 u17 u18 u19 u20 u22 0 n pv wr cn hc ns pz cI hd x (by omega)) (cwV 1 hts (ga_V kw_707 kw_709 kw_25 kw_38 (ga_in kw_710)) rfl rfl rfl (by decide +kernel) ⟨Nat.le_of_ble_eq_true rfl, Nat.le_of_ble_eq_true rfl⟩) (wy_preV 0 (hP.sub (ws' := [(mm, .inr (5, [.int 0, .ref u1, .int (nI n), .int pv, .int wr, .ref u5, .ref u6, .ref u7, .ref u8, .ref u9, .ref u10, .ref u11, .int (nI cn), .ref u13, .int (nI hc), .ref u15, .ref u16, .ref u17, .ref u18, .ref u19, .ref u20, .int (nI ns), .ref u22, .int (nI pz)])), (u13, .inl (cI, 60, .inl hd))]) [0, 1] rfl) (hK.sub (tys' := [(cI, .int)]) [0] rfl) hN (ci := 5) rfl rfl rfl) rfl rfl hl.1 rfl (lv_room (Nat.le_of_ble_eq_true rfl)) d_Mo_holiday_14 ⟨Nat.le_of_ble_eq_true rfl, Nat.le_of_ble_eq_true rfl⟩).run (fun r_14 h_14 => ?_)
    subst h_14
    refine wy_ifneB (tgt := 29) hx hb d_Mo_holiday_17 (by decide) (fun c_17 => ?_) (fun c_17 => ?_)
    · refine lv_iconst (v := 0) hx hb d_Mo_holiday_29 (by decide) ?_
      rw [hQ]
      have z9 : (mo_day x && (!mo_hol hd x hc 0 false && decide (hc < 60))) = false := by first | (rw [c_9]; rfl) | (rw [c_9, c_17]; rfl) | (rw [c_9, c_17, decide_eq_false (by omega)]; rfl)
      have q9 : (0 : Int32) = cond (mo_day x && (!mo_hol hd x hc 0 false && decide (hc < 60))) (nI (hc + 1)) 0 := by rw [z9]; rfl
      have e9 : ([(mm, .inr (5, [.int 0, .ref u1, .int (nI n), .int pv, .int wr, .ref u5, .ref u6, .ref u7, .ref u8, .ref u9, .ref u10, .ref u11, .int (nI cn), .ref u13, .int (nI (cond (mo_day x && (!mo_hol hd x hc 0 false && decide (hc < 60))) (hc + 1) hc)), .ref u15, .ref u16, .ref u17, .ref u18, .ref u19, .ref u20, .int (nI ns), .ref u22, .int (nI pz)])), (u13, .inl (cI, 60, .inl (cond (mo_day x && (!mo_hol hd x hc 0 false && decide (hc < 60))) (upd hd hc x) hd)))] : va_W) = [(mm, .inr (5, [.int 0, .ref u1, .int (nI n), .int pv, .int wr, .ref u5, .ref u6, .ref u7, .ref u8, .ref u9, .ref u10, .ref u11, .int (nI cn), .ref u13, .int (nI hc), .ref u15, .ref u16, .ref u17, .ref u18, .ref u19, .ref u20, .int (nI ns), .ref u22, .int (nI pz)])), (u13, .inl (cI, 60, .inl hd))] := by rw [z9] <;> rfl
      exact W.iret (v := 0) hx hb hr (fun t ht hW => ⟨⟨_, (), rfl, q9, by rw [ht, e9]; exact hP, va_K.moved hW.alike hK, by rw [e9]; exact hD⟩, hS.F ht⟩) hS.2.2 d_Mo_holiday_30
    · refine lv_aload_n hx hb d_Mo_holiday_20 rfl (lv_at hl 0 rfl) ?_
      refine va_get (D := (dC, dI)) (ci := 5) (v := .int (nI hc)) (C := "PatternTextModel") (T := F_Mo) (N := 24) hx hb hts iw_Mo hown hK hP 0 rfl rfl 14 (by decide) (hts _ kw_574) (fun _ h9 => h9) rfl d_Mo_holiday_21 ?_
      refine lv_bipush (v := 60) hx hb d_Mo_holiday_24 (by decide) ?_
      refine wy_icmp_ne (tgt := 31) hx hb hc 60 (by omega) (by omega) d_Mo_holiday_26 (by decide) (fun c_26 => ?_) (fun c_26 => ?_)
      · refine lv_aload_n hx hb d_Mo_holiday_31 rfl (lv_at hl 0 rfl) ?_
        refine va_get (D := (dC, dI)) (ci := 5) (v := .ref u13) (C := "PatternTextModel") (T := F_Mo) (N := 24) hx hb hts iw_Mo hown hK hP 0 rfl rfl 13 (by decide) (hts _ kw_573) (fun _ h9 => h9) rfl d_Mo_holiday_32 ?_
        refine lv_aload_n hx hb d_Mo_holiday_35 rfl (lv_at hl 0 rfl) ?_
        refine va_get (D := (dC, dI)) (ci := 5) (v := .int (nI hc)) (C := "PatternTextModel") (T := F_Mo) (N := 24) hx hb hts iw_Mo hown hK hP 0 rfl rfl 14 (by decide) (hts _ kw_574) (fun _ h9 => h9) rfl d_Mo_holiday_36 ?_
        refine lv_iload_n hx hb d_Mo_holiday_39 rfl (lv_at hl 1 rfl) ?_
        refine wy_iast hx hb hK hP hD hS 1 0 hc rfl rfl (by omega) (by omega) d_Mo_holiday_40 (fun H locs hP hD hS => ?_)
        have hP : va_P (dC, dI) ga_cl [(mm, .inr (5, [.int 0, .ref u1, .int (nI n), .int pv, .int wr, .ref u5, .ref u6, .ref u7, .ref u8, .ref u9, .ref u10, .ref u11, .int (nI cn), .ref u13, .int (nI hc), .ref u15, .ref u16, .ref u17, .ref u18, .ref u19, .ref u20, .int (nI ns), .ref u22, .int (nI pz)])), (u13, .inl (cI, 60, .inl (upd hd hc x)))] H := hP
        have hD : va_D A [(mm, .inr (5, [.int 0, .ref u1, .int (nI n), .int pv, .int wr, .ref u5, .ref u6, .ref u7, .ref u8, .ref u9, .ref u10, .ref u11, .int (nI cn), .ref u13, .int (nI hc), .ref u15, .ref u16, .ref u17, .ref u18, .ref u19, .ref u20, .int (nI ns), .ref u22, .int (nI pz)])), (u13, .inl (cI, 60, .inl (upd hd hc x)))] := hD
        refine lv_aload_n hx hb d_Mo_holiday_41 rfl (lv_at hl 0 rfl) ?_
        refine lv_dup hx hb d_Mo_holiday_42 rfl ?_
        refine va_get (D := (dC, dI)) (ci := 5) (v := .int (nI hc)) (C := "PatternTextModel") (T := F_Mo) (N := 24) hx hb hts iw_Mo hown hK hP 0 rfl rfl 14 (by decide) (hts _ kw_574) (fun _ h9 => h9) rfl d_Mo_holiday_43 ?_
        refine lv_iconst (v := 1) hx hb d_Mo_holiday_46 (by decide) ?_
        refine wy_iadd hx hb hc 1 d_Mo_holiday_47 ?_
        refine va_put (D := (dC, dI)) (ci := 5) (v := .int (nI (hc + 1))) (ty := .int) (C := "PatternTextModel") (T := F_Mo) (N := 24) hx hb hts iw_Mo t_Mo t_Mo_ok n_Mo hown hK hP hD hS 0 rfl rfl 14 (by decide) (hts _ kw_574) (fun _ h9 => h9) rfl (by decide +kernel) rfl rfl (Nat.le_of_ble_eq_true rfl) d_Mo_holiday_48 (fun H locs hP hD hS => ?_)
        have hP : va_P (dC, dI) ga_cl [(mm, .inr (5, [.int 0, .ref u1, .int (nI n), .int pv, .int wr, .ref u5, .ref u6, .ref u7, .ref u8, .ref u9, .ref u10, .ref u11, .int (nI cn), .ref u13, .int (nI (hc + 1)), .ref u15, .ref u16, .ref u17, .ref u18, .ref u19, .ref u20, .int (nI ns), .ref u22, .int (nI pz)])), (u13, .inl (cI, 60, .inl (upd hd hc x)))] H := hP
        have hD : va_D A [(mm, .inr (5, [.int 0, .ref u1, .int (nI n), .int pv, .int wr, .ref u5, .ref u6, .ref u7, .ref u8, .ref u9, .ref u10, .ref u11, .int (nI cn), .ref u13, .int (nI (hc + 1)), .ref u15, .ref u16, .ref u17, .ref u18, .ref u19, .ref u20, .int (nI ns), .ref u22, .int (nI pz)])), (u13, .inl (cI, 60, .inl (upd hd hc x)))] := hD
        refine lv_aload_n hx hb d_Mo_holiday_51 rfl (lv_at hl 0 rfl) ?_
        refine va_get (D := (dC, dI)) (ci := 5) (v := .int (nI (hc + 1))) (C := "PatternTextModel") (T := F_Mo) (N := 24) hx hb hts iw_Mo hown hK hP 0 rfl rfl 14 (by decide) (hts _ kw_574) (fun _ h9 => h9) rfl d_Mo_holiday_52 ?_
        rw [hQ]
        have z9 : (mo_day x && (!mo_hol hd x hc 0 false && decide (hc < 60))) = true := by rw [c_9, c_17, decide_eq_true (by omega)]; rfl
        have q9 : (nI (hc + 1) : Int32) = cond (mo_day x && (!mo_hol hd x hc 0 false && decide (hc < 60))) (nI (hc + 1)) 0 := by rw [z9]; rfl
        have e9 : ([(mm, .inr (5, [.int 0, .ref u1, .int (nI n), .int pv, .int wr, .ref u5, .ref u6, .ref u7, .ref u8, .ref u9, .ref u10, .ref u11, .int (nI cn), .ref u13, .int (nI (cond (mo_day x && (!mo_hol hd x hc 0 false && decide (hc < 60))) (hc + 1) hc)), .ref u15, .ref u16, .ref u17, .ref u18, .ref u19, .ref u20, .int (nI ns), .ref u22, .int (nI pz)])), (u13, .inl (cI, 60, .inl (cond (mo_day x && (!mo_hol hd x hc 0 false && decide (hc < 60))) (upd hd hc x) hd)))] : va_W) = [(mm, .inr (5, [.int 0, .ref u1, .int (nI n), .int pv, .int wr, .ref u5, .ref u6, .ref u7, .ref u8, .ref u9, .ref u10, .ref u11, .int (nI cn), .ref u13, .int (nI (hc + 1)), .ref u15, .ref u16, .ref u17, .ref u18, .ref u19, .ref u20, .int (nI ns), .ref u22, .int (nI pz)])), (u13, .inl (cI, 60, .inl (upd hd hc x)))] := by rw [z9] <;> rfl
        exact W.iret (v := nI (hc + 1)) hx hb hr (fun t ht hW => ⟨⟨_, (), rfl, q9, by rw [ht, e9]; exact hP, va_K.moved hW.alike hK, by rw [e9]; exact hD⟩, hS.F ht⟩) hS.2.2 d_Mo_holiday_55
      · refine lv_iconst (v := 0) hx hb d_Mo_holiday_29 (by decide) ?_
        rw [hQ]
        have z9 : (mo_day x && (!mo_hol hd x hc 0 false && decide (hc < 60))) = false := by first | (rw [c_9]; rfl) | (rw [c_9, c_17]; rfl) | (rw [c_9, c_17, decide_eq_false (by omega)]; rfl)
        have q9 : (0 : Int32) = cond (mo_day x && (!mo_hol hd x hc 0 false && decide (hc < 60))) (nI (hc + 1)) 0 := by rw [z9]; rfl
        have e9 : ([(mm, .inr (5, [.int 0, .ref u1, .int (nI n), .int pv, .int wr, .ref u5, .ref u6, .ref u7, .ref u8, .ref u9, .ref u10, .ref u11, .int (nI cn), .ref u13, .int (nI (cond (mo_day x && (!mo_hol hd x hc 0 false && decide (hc < 60))) (hc + 1) hc)), .ref u15, .ref u16, .ref u17, .ref u18, .ref u19, .ref u20, .int (nI ns), .ref u22, .int (nI pz)])), (u13, .inl (cI, 60, .inl (cond (mo_day x && (!mo_hol hd x hc 0 false && decide (hc < 60))) (upd hd hc x) hd)))] : va_W) = [(mm, .inr (5, [.int 0, .ref u1, .int (nI n), .int pv, .int wr, .ref u5, .ref u6, .ref u7, .ref u8, .ref u9, .ref u10, .ref u11, .int (nI cn), .ref u13, .int (nI hc), .ref u15, .ref u16, .ref u17, .ref u18, .ref u19, .ref u20, .int (nI ns), .ref u22, .int (nI pz)])), (u13, .inl (cI, 60, .inl hd))] := by rw [z9] <;> rfl
        exact W.iret (v := 0) hx hb hr (fun t ht hW => ⟨⟨_, (), rfl, q9, by rw [ht, e9]; exact hP, va_K.moved hW.alike hK, by rw [e9]; exact hD⟩, hS.F ht⟩) hS.2.2 d_Mo_holiday_30

set_option maxHeartbeats 4000000 in
set_option maxRecDepth 100000 in
theorem c_Mo_lateOn (l : Launch) (dC : Nat → ClassId) (dI : Nat → Nat → Nat) (mm : Nat) (u1 : Nat) (u5 : Nat) (u6 : Nat) (u7 : Nat) (u8 : Nat) (u9 : Nat) (u10 : Nat) (u11 : Nat) (u13 : Nat) (u15 : Nat) (u16 : Nat) (u17 : Nat) (u18 : Nat) (u19 : Nat) (u20 : Nat) (u22 : Nat) (th : Int32) (n : Nat) (pv : Int32) (wr : Int32) (cn : Nat) (hc : Nat) (ns : Nat) (pz : Nat) (cI : ClassId) (fe : Nat → Int32) (fc : Nat → Int32) (k : Nat) (x : Int32) (hk : k < 100) : Met l y_Mo_lateOn w_Mo_lateOn ({ frames := 0, cells := 0, slots := 0, locals := 0 }) (va_Pc [.ref mm, .int (nI k), .int x] (wy_R (dC, dI) ga_cl [(mm, .inr (5, [.int th, .ref u1, .int (nI n), .int pv, .int wr, .ref u5, .ref u6, .ref u7, .ref u8, .ref u9, .ref u10, .ref u11, .int (nI cn), .ref u13, .int (nI hc), .ref u15, .ref u16, .ref u17, .ref u18, .ref u19, .ref u20, .int (nI ns), .ref u22, .int (nI pz)])), (u16, .inl (cI, 100, .inl fe)), (u20, .inl (cI, 100, .inl fc))] [(cI, .int)])) (vp_Si (fun r => r = mo_late fc fe k x)) 0 0 (fun _ => False) := by
  refine Met.ofW (cc := b_Mo_lateOn) (maxL := 4) (ret := (some .int)) (by decide) rfl ?_
  intro p e s m args below meth c s₁ B hml hv
  obtain ⟨rfl, hP, hK, hN⟩ := hv
  have hx := B.exec
  have hb := B.bytes
  have hr := B.returns
  have hts : ∀ w ∈ ga_tbl, w.before _ s = true := fun w h => atoms_spec (ws := w_Mo_lateOn) B.pre w (List.mem_cons_of_mem _ h)
  have hown : s.vm.findClass "PatternTextModel" = some m.cls := findClass_of_methodNamed B.named
  have hlocks := B.notSynchronized
  have hl := lv_entry ([.ref mm, .int (nI k), .int x]) (n := 4) (Nat.le_of_ble_eq_true rfl)
  rw [lg_entry_eq]
  generalize (lg_sl ([.ref mm, .int (nI k), .int x]) ++ List.replicate (4 - (lg_sl ([.ref mm, .int (nI k), .int x])).length) Slot.unset).toArray = ls at hl ⊢
  have hl : lv_has ls 4 [(0, .ref mm), (1, .int (nI k)), (2, .int x)] := hl
  refine lv_aload_n hx hb d_Mo_lateOn_0 rfl (lv_at hl 0 rfl) ?_
  refine va_get (D := (dC, dI)) (ci := 5) (v := .ref u20) (C := "PatternTextModel") (T := F_Mo) (N := 24) hx hb hts iw_Mo hown hK hP 0 rfl rfl 20 (by decide) (hts _ kw_580) (fun _ h9 => h9) rfl d_Mo_lateOn_1 ?_
  refine lv_iload_n hx hb d_Mo_lateOn_4 rfl (lv_at hl 1 rfl) ?_
  refine wy_iald hx hb hK hP 2 0 k rfl rfl (by omega) (by omega) d_Mo_lateOn_5 ?_
  refine lv_iconst (v := -1) hx hb d_Mo_lateOn_6 (by decide) ?_
  refine lv_icmp_ne (tgt := 14) hx hb d_Mo_lateOn_7 (by decide) (fun c_7 => ?_) (fun c_7 => ?_)
  · refine lv_aload_n hx hb d_Mo_lateOn_14 rfl (lv_at hl 0 rfl) ?_
    refine va_get (D := (dC, dI)) (ci := 5) (v := .ref u20) (C := "PatternTextModel") (T := F_Mo) (N := 24) hx hb hts iw_Mo hown hK hP 0 rfl rfl 20 (by decide) (hts _ kw_580) (fun _ h9 => h9) rfl d_Mo_lateOn_15 ?_
    refine lv_iload_n hx hb d_Mo_lateOn_18 rfl (lv_at hl 1 rfl) ?_
    refine wy_iald hx hb hK hP 2 0 k rfl rfl (by omega) (by omega) d_Mo_lateOn_19 ?_
    refine lv_aload_n hx hb d_Mo_lateOn_20 rfl (lv_at hl 0 rfl) ?_
    refine va_get (D := (dC, dI)) (ci := 5) (v := .ref u16) (C := "PatternTextModel") (T := F_Mo) (N := 24) hx hb hts iw_Mo hown hK hP 0 rfl rfl 16 (by decide) (hts _ kw_576) (fun _ h9 => h9) rfl d_Mo_lateOn_21 ?_
    refine lv_iload_n hx hb d_Mo_lateOn_24 rfl (lv_at hl 1 rfl) ?_
    refine wy_iald hx hb hK hP 1 0 k rfl rfl (by omega) (by omega) d_Mo_lateOn_25 ?_
    refine lv_isub hx hb d_Mo_lateOn_26 ?_
    refine lv_istore_n (lv' := [(3, .int ((fc k) - (fe k))), (0, .ref mm), (1, .int (nI k)), (2, .int x)]) hx hb d_Mo_lateOn_27 rfl hl (by decide) rfl (fun ls hl => ?_)
    refine lv_iload_n hx hb d_Mo_lateOn_28 rfl (lv_at hl 0 rfl) ?_
    refine lv_if_le (tgt := 36) hx hb d_Mo_lateOn_29 (by decide) (fun c_29 => ?_) (fun c_29 => ?_)
    · refine lv_iconst (v := 0) hx hb d_Mo_lateOn_36 (by decide) ?_
      have q9 : (0 : Int32) = mo_late fc fe k x := by unfold mo_late; (first | rw [if_pos c_7] | rw [if_neg c_7]); (first | exact (if_neg (Int32.not_lt.mpr c_29)).symm | exact (if_pos (Int32.not_le.mp c_29)).symm)
      exact W.iret (v := 0) hx hb hr (fun t ht _ => ⟨_, rfl, q9, ht⟩) (fun _ h9 => by cases h9) d_Mo_lateOn_37
    · refine lv_iload_n hx hb d_Mo_lateOn_32 rfl (lv_at hl 0 rfl) ?_
      refine lv_goto (tgt := 37) hx hb d_Mo_lateOn_33 (by decide) ?_
      have q9 : ((fc k) - (fe k) : Int32) = mo_late fc fe k x := by unfold mo_late; (first | rw [if_pos c_7] | rw [if_neg c_7]); (first | exact (if_neg (Int32.not_lt.mpr c_29)).symm | exact (if_pos (Int32.not_le.mp c_29)).symm)
      exact W.iret (v := (fc k) - (fe k)) hx hb hr (fun t ht _ => ⟨_, rfl, q9, ht⟩) (fun _ h9 => by cases h9) d_Mo_lateOn_37
  · refine lv_iload_n hx hb d_Mo_lateOn_10 rfl (lv_at hl 2 rfl) ?_
    refine lv_goto (tgt := 20) hx hb d_Mo_lateOn_11 (by decide) ?_
    refine lv_aload_n hx hb d_Mo_lateOn_20 rfl (lv_at hl 0 rfl) ?_
    refine va_get (D := (dC, dI)) (ci := 5) (v := .ref u16) (C := "PatternTextModel") (T := F_Mo) (N := 24) hx hb hts iw_Mo hown hK hP 0 rfl rfl 16 (by decide) (hts _ kw_576) (fun _ h9 => h9) rfl d_Mo_lateOn_21 ?_
    refine lv_iload_n hx hb d_Mo_lateOn_24 rfl (lv_at hl 1 rfl) ?_
    refine wy_iald hx hb hK hP 1 0 k rfl rfl (by omega) (by omega) d_Mo_lateOn_25 ?_
    refine lv_isub hx hb d_Mo_lateOn_26 ?_
    refine lv_istore_n (lv' := [(3, .int (x - (fe k))), (0, .ref mm), (1, .int (nI k)), (2, .int x)]) hx hb d_Mo_lateOn_27 rfl hl (by decide) rfl (fun ls hl => ?_)
    refine lv_iload_n hx hb d_Mo_lateOn_28 rfl (lv_at hl 0 rfl) ?_
    refine lv_if_le (tgt := 36) hx hb d_Mo_lateOn_29 (by decide) (fun c_29 => ?_) (fun c_29 => ?_)
    · refine lv_iconst (v := 0) hx hb d_Mo_lateOn_36 (by decide) ?_
      have q9 : (0 : Int32) = mo_late fc fe k x := by unfold mo_late; (first | rw [if_pos c_7] | rw [if_neg c_7]); (first | exact (if_neg (Int32.not_lt.mpr c_29)).symm | exact (if_pos (Int32.not_le.mp c_29)).symm)
      exact W.iret (v := 0) hx hb hr (fun t ht _ => ⟨_, rfl, q9, ht⟩) (fun _ h9 => by cases h9) d_Mo_lateOn_37
    · refine lv_iload_n hx hb d_Mo_lateOn_32 rfl (lv_at hl 0 rfl) ?_
      refine lv_goto (tgt := 37) hx hb d_Mo_lateOn_33 (by decide) ?_
      have q9 : (x - (fe k) : Int32) = mo_late fc fe k x := by unfold mo_late; (first | rw [if_pos c_7] | rw [if_neg c_7]); (first | exact (if_neg (Int32.not_lt.mpr c_29)).symm | exact (if_pos (Int32.not_le.mp c_29)).symm)
      exact W.iret (v := x - (fe k)) hx hb hr (fun t ht _ => ⟨_, rfl, q9, ht⟩) (fun _ h9 => by cases h9) d_Mo_lateOn_37

set_option maxHeartbeats 4000000 in
set_option maxRecDepth 100000 in
theorem c_Mo_isClaim (l : Launch) (dC : Nat → ClassId) (dI : Nat → Nat → Nat) (mm : Nat) (u1 : Nat) (u5 : Nat) (u6 : Nat) (u7 : Nat) (u8 : Nat) (u9 : Nat) (u10 : Nat) (u11 : Nat) (u13 : Nat) (u15 : Nat) (u16 : Nat) (u17 : Nat) (u18 : Nat) (u19 : Nat) (u20 : Nat) (u22 : Nat) (th : Int32) (n : Nat) (pv : Int32) (wr : Int32) (cn : Nat) (hc : Nat) (ns : Nat) (pz : Nat) (cI : ClassId) (fe : Nat → Int32) (fc : Nat → Int32) (k : Nat) (x : Int32) (hk : k < 100) : Met l y_Mo_isClaim w_Mo_isClaim ({ frames := 1, cells := 0, slots := 0, locals := 23 }) (va_Pc [.ref mm, .int (nI k), .int x] (wy_R (dC, dI) ga_cl [(mm, .inr (5, [.int th, .ref u1, .int (nI n), .int pv, .int wr, .ref u5, .ref u6, .ref u7, .ref u8, .ref u9, .ref u10, .ref u11, .int (nI cn), .ref u13, .int (nI hc), .ref u15, .ref u16, .ref u17, .ref u18, .ref u19, .ref u20, .int (nI ns), .ref u22, .int (nI pz)])), (u16, .inl (cI, 100, .inl fe)), (u20, .inl (cI, 100, .inl fc))] [(cI, .int)])) (vp_Si (fun r => r = bo_I (mo_clm fc fe k x))) 0 0 (fun _ => False) := by
  refine Met.ofW (cc := b_Mo_isClaim) (maxL := 3) (ret := (some .boolean)) (by decide) rfl ?_
  intro p e s m args below meth c s₁ B hml hv
  obtain ⟨rfl, hP, hK, hN⟩ := hv
  have hx := B.exec
  have hb := B.bytes
  have hr := B.returns
  have hts : ∀ w ∈ ga_tbl, w.before _ s = true := fun w h => atoms_spec (ws := w_Mo_isClaim) B.pre w (List.mem_cons_of_mem _ h)
  have hown : s.vm.findClass "PatternTextModel" = some m.cls := findClass_of_methodNamed B.named
  have hlocks := B.notSynchronized
  have hl := lv_entry ([.ref mm, .int (nI k), .int x]) (n := 3) (Nat.le_of_ble_eq_true rfl)
  rw [lg_entry_eq]
  generalize (lg_sl ([.ref mm, .int (nI k), .int x]) ++ List.replicate (3 - (lg_sl ([.ref mm, .int (nI k), .int x])).length) Slot.unset).toArray = ls at hl ⊢
  have hl : lv_has ls 3 [(0, .ref mm), (1, .int (nI k)), (2, .int x)] := hl
  refine lv_aload_n hx hb d_Mo_isClaim_0 rfl (lv_at hl 0 rfl) ?_
  refine va_get (D := (dC, dI)) (ci := 5) (v := .ref u20) (C := "PatternTextModel") (T := F_Mo) (N := 24) hx hb hts iw_Mo hown hK hP 0 rfl rfl 20 (by decide) (hts _ kw_580) (fun _ h9 => h9) rfl d_Mo_isClaim_1 ?_
  refine lv_iload_n hx hb d_Mo_isClaim_4 rfl (lv_at hl 1 rfl) ?_
  refine wy_iald hx hb hK hP 2 0 k rfl rfl (by omega) (by omega) d_Mo_isClaim_5 ?_
  refine lv_iconst (v := -1) hx hb d_Mo_isClaim_6 (by decide) ?_
  refine lv_icmp_ne (tgt := 23) hx hb d_Mo_isClaim_7 (by decide) (fun c_7 => ?_) (fun c_7 => ?_)
  · refine lv_iconst (v := 0) hx hb d_Mo_isClaim_23 (by decide) ?_
    have z9 : mo_clm fc fe k x = false := by unfold mo_clm; first | (rw [decide_eq_false c_7]; rfl) | (rw [decide_eq_false (Int32.not_lt.mpr c_16), Bool.and_false])
    have q9 : (0 : Int32) = bo_I (mo_clm fc fe k x) := by rw [z9]; rfl
    exact W.zret (v := 0) hx hb hr rfl (fun t ht _ => ⟨_, rfl, q9, ht⟩) (fun _ h9 => by cases h9) d_Mo_isClaim_24
  · refine lv_aload_n hx hb d_Mo_isClaim_10 rfl (lv_at hl 0 rfl) ?_
    refine lv_iload_n hx hb d_Mo_isClaim_11 rfl (lv_at hl 1 rfl) ?_
    refine lv_iload_n hx hb d_Mo_isClaim_12 rfl (lv_at hl 2 rfl) ?_
    refine vp_callSi (va_runV (As := [.int (nI k), .int x]) (rest := []) ⟨hx, hb, hml, hown, hts⟩ (c_Mo_lateOn l dC dI mm u1 u5 u6 u7 u8 u9 u10 u11 u13 u15 u16 u17 u18 u19 u20 u22 th n pv wr cn hc ns pz cI fe fc k x (by omega)) (cwV 2 hts (ga_V kw_759 kw_761 kw_31 kw_38 (ga_in kw_762)) rfl rfl rfl (by decide +kernel) ⟨Nat.le_of_ble_eq_true rfl, Nat.le_of_ble_eq_true rfl⟩) (wy_preV 0 (hP.sub (ws' := [(mm, .inr (5, [.int th, .ref u1, .int (nI n), .int pv, .int wr, .ref u5, .ref u6, .ref u7, .ref u8, .ref u9, .ref u10, .ref u11, .int (nI cn), .ref u13, .int (nI hc), .ref u15, .ref u16, .ref u17, .ref u18, .ref u19, .ref u20, .int (nI ns), .ref u22, .int (nI pz)])), (u16, .inl (cI, 100, .inl fe)), (u20, .inl (cI, 100, .inl fc))]) [0, 1, 2] rfl) (hK.sub (tys' := [(cI, .int)]) [0] rfl) hN (ci := 5) rfl rfl rfl) rfl rfl hl.1 rfl (lv_room (Nat.le_of_ble_eq_true rfl)) d_Mo_isClaim_13 ⟨Nat.le_of_ble_eq_true rfl, Nat.le_of_ble_eq_true rfl⟩).run (fun r_13 h_13 => ?_)
    subst h_13
    refine lv_if_le (tgt := 23) hx hb d_Mo_isClaim_16 (by decide) (fun c_16 => ?_) (fun c_16 => ?_)
    · refine lv_iconst (v := 0) hx hb d_Mo_isClaim_23 (by decide) ?_
      have z9 : mo_clm fc fe k x = false := by unfold mo_clm; first | (rw [decide_eq_false c_7]; rfl) | (rw [decide_eq_false (Int32.not_lt.mpr c_16), Bool.and_false])
      have q9 : (0 : Int32) = bo_I (mo_clm fc fe k x) := by rw [z9]; rfl
      exact W.zret (v := 0) hx hb hr rfl (fun t ht _ => ⟨_, rfl, q9, ht⟩) (fun _ h9 => by cases h9) d_Mo_isClaim_24
    · refine lv_iconst (v := 1) hx hb d_Mo_isClaim_19 (by decide) ?_
      refine lv_goto (tgt := 24) hx hb d_Mo_isClaim_20 (by decide) ?_
      have z9 : mo_clm fc fe k x = true := by unfold mo_clm; rw [decide_eq_true c_7, decide_eq_true (Int32.not_le.mp c_16)]; rfl
      have q9 : (1 : Int32) = bo_I (mo_clm fc fe k x) := by rw [z9]; rfl
      exact W.zret (v := 1) hx hb hr rfl (fun t ht _ => ⟨_, rfl, q9, ht⟩) (fun _ h9 => by cases h9) d_Mo_isClaim_24

set_option maxHeartbeats 4000000 in
set_option maxRecDepth 100000 in
theorem c_Mo_date (l : Launch) (dC : Nat → ClassId) (dI : Nat → Nat → Nat) (sz : Nat) (mm : Nat) (u1 : Nat) (u5 : Nat) (u6 : Nat) (u7 : Nat) (u8 : Nat) (u9 : Nat) (u10 : Nat) (u11 : Nat) (u13 : Nat) (u15 : Nat) (u16 : Nat) (u17 : Nat) (u18 : Nat) (u19 : Nat) (u20 : Nat) (u22 : Nat) (th : Int32) (n : Nat) (pv : Int32) (wr : Int32) (cn : Nat) (hc : Nat) (ns : Nat) (pz : Nat) (cI : ClassId) (fe : Nat → Int32) (x : Int32) (hn : ns ≤ 100) : Met l y_Mo_date w_Mo_date ({ frames := 1, cells := 0, slots := 0, locals := 21 }) (va_Pc [.ref mm, .int x] (wy_M (dC, dI) ga_cl [(mm, .inr (5, [.int th, .ref u1, .int (nI n), .int pv, .int wr, .ref u5, .ref u6, .ref u7, .ref u8, .ref u9, .ref u10, .ref u11, .int (nI cn), .ref u13, .int (nI hc), .ref u15, .ref u16, .ref u17, .ref u18, .ref u19, .ref u20, .int (nI ns), .ref u22, .int (nI pz)])), (u16, .inl (cI, 100, .inl fe))] [(cI, .int)] sz)) (va_Ql (fun (r : Int64) (_ : Unit) => r = cond (li_has ns x) (fe x.toNatClampNeg).toInt64 (-1)) (fun _ => wy_N (dC, dI) ga_cl [(cI, .int)] (va_A [(mm, .inr (5, [.int th, .ref u1, .int (nI n), .int pv, .int wr, .ref u5, .ref u6, .ref u7, .ref u8, .ref u9, .ref u10, .ref u11, .int (nI cn), .ref u13, .int (nI hc), .ref u15, .ref u16, .ref u17, .ref u18, .ref u19, .ref u20, .int (nI ns), .ref u22, .int (nI pz)])), (u16, .inl (cI, 100, .inl fe))] sz) [(mm, .inr (5, [.int 0, .ref u1, .int (nI n), .int pv, .int wr, .ref u5, .ref u6, .ref u7, .ref u8, .ref u9, .ref u10, .ref u11, .int (nI cn), .ref u13, .int (nI hc), .ref u15, .ref u16, .ref u17, .ref u18, .ref u19, .ref u20, .int (nI ns), .ref u22, .int (nI pz)])), (u16, .inl (cI, 100, .inl fe))]) (va_A [(mm, .inr (5, [.int th, .ref u1, .int (nI n), .int pv, .int wr, .ref u5, .ref u6, .ref u7, .ref u8, .ref u9, .ref u10, .ref u11, .int (nI cn), .ref u13, .int (nI hc), .ref u15, .ref u16, .ref u17, .ref u18, .ref u19, .ref u20, .int (nI ns), .ref u22, .int (nI pz)])), (u16, .inl (cI, 100, .inl fe))] sz)) 0 0 (va_A [(mm, .inr (5, [.int th, .ref u1, .int (nI n), .int pv, .int wr, .ref u5, .ref u6, .ref u7, .ref u8, .ref u9, .ref u10, .ref u11, .int (nI cn), .ref u13, .int (nI hc), .ref u15, .ref u16, .ref u17, .ref u18, .ref u19, .ref u20, .int (nI ns), .ref u22, .int (nI pz)])), (u16, .inl (cI, 100, .inl fe))] sz) := by
  refine Met.ofW (cc := b_Mo_date) (maxL := 2) (ret := (some .long)) (by decide) rfl ?_
  intro p e s m args below meth c s₁ B hml hv
  obtain ⟨rfl, hsz, hP, hK, hN, hD0⟩ := hv
  have hx := B.exec
  have hb := B.bytes
  have hr := B.returns
  have hts : ∀ w ∈ ga_tbl, w.before _ s = true := fun w h => atoms_spec (ws := w_Mo_date) B.pre w (List.mem_cons_of_mem _ h)
  have hown : s.vm.findClass "PatternTextModel" = some m.cls := findClass_of_methodNamed B.named
  have hlocks := B.notSynchronized
  subst hsz
  have hD := hD0.self (sz := s.heap.size)
  generalize hAe : va_A [(mm, .inr (5, [.int th, .ref u1, .int (nI n), .int pv, .int wr, .ref u5, .ref u6, .ref u7, .ref u8, .ref u9, .ref u10, .ref u11, .int (nI cn), .ref u13, .int (nI hc), .ref u15, .ref u16, .ref u17, .ref u18, .ref u19, .ref u20, .int (nI ns), .ref u22, .int (nI pz)])), (u16, .inl (cI, 100, .inl fe))] s.heap.size = A at hD ⊢
  have hA : ∀ q : Nat, s.heap.size ≤ q → A q := fun q h => by rw [← hAe]; exact Or.inr h
  have hS : va_S A s.heap s.heap [] := va_S.rf
  have hl := lv_entry ([.ref mm, .int x]) (n := 2) (Nat.le_of_ble_eq_true rfl)
  rw [lg_entry_eq]
  generalize (lg_sl ([.ref mm, .int x]) ++ List.replicate (2 - (lg_sl ([.ref mm, .int x])).length) Slot.unset).toArray = ls at hl ⊢
  have hl : lv_has ls 2 [(0, .ref mm), (1, .int x)] := hl
  obtain ⟨Q0, hQ⟩ : ∃ Q0 : State → Prop, Q0 = MQ below (va_Ql (fun (r : Int64) (_ : Unit) => r = cond (li_has ns x) (fe x.toNatClampNeg).toInt64 (-1)) (fun _ => wy_N (dC, dI) ga_cl [(cI, .int)] A [(mm, .inr (5, [.int 0, .ref u1, .int (nI n), .int pv, .int wr, .ref u5, .ref u6, .ref u7, .ref u8, .ref u9, .ref u10, .ref u11, .int (nI cn), .ref u13, .int (nI hc), .ref u15, .ref u16, .ref u17, .ref u18, .ref u19, .ref u20, .int (nI ns), .ref u22, .int (nI pz)])), (u16, .inl (cI, 100, .inl fe))]) A) ([.ref mm, .int x] : List Value).toArray s 0 0 A := ⟨_, rfl⟩
  show W p l e ({ frames := 1, cells := 0, slots := 0, locals := 21 }) s m ([.ref mm, .int x] : List Value).toArray below meth c s.heap [] 0 0 (MQ below (va_Ql (fun (r : Int64) (_ : Unit) => r = cond (li_has ns x) (fe x.toNatClampNeg).toInt64 (-1)) (fun _ => wy_N (dC, dI) ga_cl [(cI, .int)] A [(mm, .inr (5, [.int 0, .ref u1, .int (nI n), .int pv, .int wr, .ref u5, .ref u6, .ref u7, .ref u8, .ref u9, .ref u10, .ref u11, .int (nI cn), .ref u13, .int (nI hc), .ref u15, .ref u16, .ref u17, .ref u18, .ref u19, .ref u20, .int (nI ns), .ref u22, .int (nI pz)])), (u16, .inl (cI, 100, .inl fe))]) A) ([.ref mm, .int x] : List Value).toArray s 0 0 A) (F0 m 0 ls [])
  rw [← hQ]
  refine lv_aload_n hx hb d_Mo_date_0 rfl (lv_at hl 0 rfl) ?_
  refine lv_iconst (v := 0) hx hb d_Mo_date_1 (by decide) ?_
  refine va_put (D := (dC, dI)) (ci := 5) (v := .int 0) (ty := .int) (C := "PatternTextModel") (T := F_Mo) (N := 24) hx hb hts iw_Mo t_Mo t_Mo_ok n_Mo hown hK hP hD hS 0 rfl rfl 0 (by decide) (hts _ kw_560) (fun _ h9 => h9) rfl (by decide +kernel) rfl rfl (Nat.le_of_ble_eq_true rfl) d_Mo_date_2 (fun H locs hP hD hS => ?_)
  have hP : va_P (dC, dI) ga_cl [(mm, .inr (5, [.int 0, .ref u1, .int (nI n), .int pv, .int wr, .ref u5, .ref u6, .ref u7, .ref u8, .ref u9, .ref u10, .ref u11, .int (nI cn), .ref u13, .int (nI hc), .ref u15, .ref u16, .ref u17, .ref u18, .ref u19, .ref u20, .int (nI ns), .ref u22, .int (nI pz)])), (u16, .inl (cI, 100, .inl fe))] H := hP
  have hD : va_D A [(mm, .inr (5, [.int 0, .ref u1, .int (nI n), .int pv, .int wr, .ref u5, .ref u6, .ref u7, .ref u8, .ref u9, .ref u10, .ref u11, .int (nI cn), .ref u13, .int (nI hc), .ref u15, .ref u16, .ref u17, .ref u18, .ref u19, .ref u20, .int (nI ns), .ref u22, .int (nI pz)])), (u16, .inl (cI, 100, .inl fe))] := hD
  refine lv_aload_n hx hb d_Mo_date_5 rfl (lv_at hl 0 rfl) ?_
  refine lv_iload_n hx hb d_Mo_date_6 rfl (lv_at hl 1 rfl) ?_
  refine vp_callSi (va_runV (As := [.int x]) (rest := []) ⟨hx, hb, hml, hown, hts⟩ (c_Mo_isIssue l dC dI mm u1 u5 u6 u7 u8 u9 u10 u11 u13 u15 u16 u17 u18 u19 u20 u22 0 n pv wr cn hc ns pz x ) (cwV 1 hts (ga_V kw_735 kw_737 kw_29 kw_38 (ga_in kw_738)) rfl rfl rfl (by decide +kernel) ⟨Nat.le_of_ble_eq_true rfl, Nat.le_of_ble_eq_true rfl⟩) (wy_preV 0 (hP.sub (ws' := [(mm, .inr (5, [.int 0, .ref u1, .int (nI n), .int pv, .int wr, .ref u5, .ref u6, .ref u7, .ref u8, .ref u9, .ref u10, .ref u11, .int (nI cn), .ref u13, .int (nI hc), .ref u15, .ref u16, .ref u17, .ref u18, .ref u19, .ref u20, .int (nI ns), .ref u22, .int (nI pz)]))]) [0] rfl) (hK.sub (tys' := []) [] rfl) hN (ci := 5) rfl rfl rfl) rfl rfl hl.1 rfl (lv_room (Nat.le_of_ble_eq_true rfl)) d_Mo_date_7 ⟨Nat.le_of_ble_eq_true rfl, Nat.le_of_ble_eq_true rfl⟩).run (fun r_7 h_7 => ?_)
  subst h_7
  refine wy_ifeqB (tgt := 23) hx hb d_Mo_date_10 (by decide) (fun c_10 => ?_) (fun c_10 => ?_)
  · refine lv_ldc2 (v := (-1)) hx hb hown (hts _ kw_665) d_Mo_date_23 ?_
    rw [hQ]
    have q9 : ((-1) : Int64) = cond (li_has ns x) (fe x.toNatClampNeg).toInt64 (-1) := by rw [c_10]; rfl
    have e9 : ([(mm, .inr (5, [.int 0, .ref u1, .int (nI n), .int pv, .int wr, .ref u5, .ref u6, .ref u7, .ref u8, .ref u9, .ref u10, .ref u11, .int (nI cn), .ref u13, .int (nI hc), .ref u15, .ref u16, .ref u17, .ref u18, .ref u19, .ref u20, .int (nI ns), .ref u22, .int (nI pz)])), (u16, .inl (cI, 100, .inl fe))] : va_W) = [(mm, .inr (5, [.int 0, .ref u1, .int (nI n), .int pv, .int wr, .ref u5, .ref u6, .ref u7, .ref u8, .ref u9, .ref u10, .ref u11, .int (nI cn), .ref u13, .int (nI hc), .ref u15, .ref u16, .ref u17, .ref u18, .ref u19, .ref u20, .int (nI ns), .ref u22, .int (nI pz)])), (u16, .inl (cI, 100, .inl fe))] := by rfl
    exact W.lret (v := (-1)) hx hb hr (fun t ht hW => ⟨⟨_, (), rfl, q9, by rw [ht, e9]; exact hP, va_K.moved hW.alike hK, by rw [e9]; exact hD⟩, hS.F ht⟩) hS.2.2 d_Mo_date_26
  · obtain ⟨k, hk, rfl⟩ := li_has_of (by omega) c_10
    refine lv_aload_n hx hb d_Mo_date_13 rfl (lv_at hl 0 rfl) ?_
    refine va_get (D := (dC, dI)) (ci := 5) (v := .ref u16) (C := "PatternTextModel") (T := F_Mo) (N := 24) hx hb hts iw_Mo hown hK hP 0 rfl rfl 16 (by decide) (hts _ kw_576) (fun _ h9 => h9) rfl d_Mo_date_14 ?_
    refine lv_iload_n hx hb d_Mo_date_17 rfl (lv_at hl 1 rfl) ?_
    refine wy_iald hx hb hK hP 1 0 k rfl rfl (by omega) (by omega) d_Mo_date_18 ?_
    refine lv_i2l (v := (fe k).toInt64) hx hb d_Mo_date_19 rfl ?_
    refine lv_goto (tgt := 26) hx hb d_Mo_date_20 (by decide) ?_
    rw [hQ]
    have q9 : ((fe k).toInt64 : Int64) = cond (li_has ns (nI k)) (fe (nI k).toNatClampNeg).toInt64 (-1) := by rw [li_has_nI (by omega) (by omega), decide_eq_true hk, nI_clamp (by omega)]; rfl
    have e9 : ([(mm, .inr (5, [.int 0, .ref u1, .int (nI n), .int pv, .int wr, .ref u5, .ref u6, .ref u7, .ref u8, .ref u9, .ref u10, .ref u11, .int (nI cn), .ref u13, .int (nI hc), .ref u15, .ref u16, .ref u17, .ref u18, .ref u19, .ref u20, .int (nI ns), .ref u22, .int (nI pz)])), (u16, .inl (cI, 100, .inl fe))] : va_W) = [(mm, .inr (5, [.int 0, .ref u1, .int (nI n), .int pv, .int wr, .ref u5, .ref u6, .ref u7, .ref u8, .ref u9, .ref u10, .ref u11, .int (nI cn), .ref u13, .int (nI hc), .ref u15, .ref u16, .ref u17, .ref u18, .ref u19, .ref u20, .int (nI ns), .ref u22, .int (nI pz)])), (u16, .inl (cI, 100, .inl fe))] := by rfl
    exact W.lret (v := (fe k).toInt64) hx hb hr (fun t ht hW => ⟨⟨_, (), rfl, q9, by rw [ht, e9]; exact hP, va_K.moved hW.alike hK, by rw [e9]; exact hD⟩, hS.F ht⟩) hS.2.2 d_Mo_date_26

set_option maxHeartbeats 4000000 in
set_option maxRecDepth 100000 in
theorem c_Mo_late (l : Launch) (dC : Nat → ClassId) (dI : Nat → Nat → Nat) (sz : Nat) (mm : Nat) (u1 : Nat) (u5 : Nat) (u6 : Nat) (u7 : Nat) (u8 : Nat) (u9 : Nat) (u10 : Nat) (u11 : Nat) (u13 : Nat) (u15 : Nat) (u16 : Nat) (u17 : Nat) (u18 : Nat) (u19 : Nat) (u20 : Nat) (u22 : Nat) (th : Int32) (n : Nat) (pv : Int32) (wr : Int32) (cn : Nat) (hc : Nat) (ns : Nat) (pz : Nat) (cI : ClassId) (fe : Nat → Int32) (fc : Nat → Int32) (x : Int32) (y : Int32) (hn : ns ≤ 100) : Met l y_Mo_late w_Mo_late ({ frames := 1, cells := 0, slots := 0, locals := 23 }) (va_Pc [.ref mm, .int x, .int y] (wy_M (dC, dI) ga_cl [(mm, .inr (5, [.int th, .ref u1, .int (nI n), .int pv, .int wr, .ref u5, .ref u6, .ref u7, .ref u8, .ref u9, .ref u10, .ref u11, .int (nI cn), .ref u13, .int (nI hc), .ref u15, .ref u16, .ref u17, .ref u18, .ref u19, .ref u20, .int (nI ns), .ref u22, .int (nI pz)])), (u16, .inl (cI, 100, .inl fe)), (u20, .inl (cI, 100, .inl fc))] [(cI, .int)] sz)) (va_Qi (fun (r : Int32) (_ : Unit) => r = cond (li_has ns x && mo_day y) (mo_late fc fe x.toNatClampNeg y) (-1)) (fun _ => wy_N (dC, dI) ga_cl [(cI, .int)] (va_A [(mm, .inr (5, [.int th, .ref u1, .int (nI n), .int pv, .int wr, .ref u5, .ref u6, .ref u7, .ref u8, .ref u9, .ref u10, .ref u11, .int (nI cn), .ref u13, .int (nI hc), .ref u15, .ref u16, .ref u17, .ref u18, .ref u19, .ref u20, .int (nI ns), .ref u22, .int (nI pz)])), (u16, .inl (cI, 100, .inl fe)), (u20, .inl (cI, 100, .inl fc))] sz) [(mm, .inr (5, [.int 0, .ref u1, .int (nI n), .int pv, .int wr, .ref u5, .ref u6, .ref u7, .ref u8, .ref u9, .ref u10, .ref u11, .int (nI cn), .ref u13, .int (nI hc), .ref u15, .ref u16, .ref u17, .ref u18, .ref u19, .ref u20, .int (nI ns), .ref u22, .int (nI pz)])), (u16, .inl (cI, 100, .inl fe)), (u20, .inl (cI, 100, .inl fc))]) (va_A [(mm, .inr (5, [.int th, .ref u1, .int (nI n), .int pv, .int wr, .ref u5, .ref u6, .ref u7, .ref u8, .ref u9, .ref u10, .ref u11, .int (nI cn), .ref u13, .int (nI hc), .ref u15, .ref u16, .ref u17, .ref u18, .ref u19, .ref u20, .int (nI ns), .ref u22, .int (nI pz)])), (u16, .inl (cI, 100, .inl fe)), (u20, .inl (cI, 100, .inl fc))] sz)) 0 0 (va_A [(mm, .inr (5, [.int th, .ref u1, .int (nI n), .int pv, .int wr, .ref u5, .ref u6, .ref u7, .ref u8, .ref u9, .ref u10, .ref u11, .int (nI cn), .ref u13, .int (nI hc), .ref u15, .ref u16, .ref u17, .ref u18, .ref u19, .ref u20, .int (nI ns), .ref u22, .int (nI pz)])), (u16, .inl (cI, 100, .inl fe)), (u20, .inl (cI, 100, .inl fc))] sz) := by
  refine Met.ofW (cc := b_Mo_late) (maxL := 3) (ret := (some .int)) (by decide) rfl ?_
  intro p e s m args below meth c s₁ B hml hv
  obtain ⟨rfl, hsz, hP, hK, hN, hD0⟩ := hv
  have hx := B.exec
  have hb := B.bytes
  have hr := B.returns
  have hts : ∀ w ∈ ga_tbl, w.before _ s = true := fun w h => atoms_spec (ws := w_Mo_late) B.pre w (List.mem_cons_of_mem _ h)
  have hown : s.vm.findClass "PatternTextModel" = some m.cls := findClass_of_methodNamed B.named
  have hlocks := B.notSynchronized
  subst hsz
  have hD := hD0.self (sz := s.heap.size)
  generalize hAe : va_A [(mm, .inr (5, [.int th, .ref u1, .int (nI n), .int pv, .int wr, .ref u5, .ref u6, .ref u7, .ref u8, .ref u9, .ref u10, .ref u11, .int (nI cn), .ref u13, .int (nI hc), .ref u15, .ref u16, .ref u17, .ref u18, .ref u19, .ref u20, .int (nI ns), .ref u22, .int (nI pz)])), (u16, .inl (cI, 100, .inl fe)), (u20, .inl (cI, 100, .inl fc))] s.heap.size = A at hD ⊢
  have hA : ∀ q : Nat, s.heap.size ≤ q → A q := fun q h => by rw [← hAe]; exact Or.inr h
  have hS : va_S A s.heap s.heap [] := va_S.rf
  have hl := lv_entry ([.ref mm, .int x, .int y]) (n := 3) (Nat.le_of_ble_eq_true rfl)
  rw [lg_entry_eq]
  generalize (lg_sl ([.ref mm, .int x, .int y]) ++ List.replicate (3 - (lg_sl ([.ref mm, .int x, .int y])).length) Slot.unset).toArray = ls at hl ⊢
  have hl : lv_has ls 3 [(0, .ref mm), (1, .int x), (2, .int y)] := hl
  obtain ⟨Q0, hQ⟩ : ∃ Q0 : State → Prop, Q0 = MQ below (va_Qi (fun (r : Int32) (_ : Unit) => r = cond (li_has ns x && mo_day y) (mo_late fc fe x.toNatClampNeg y) (-1)) (fun _ => wy_N (dC, dI) ga_cl [(cI, .int)] A [(mm, .inr (5, [.int 0, .ref u1, .int (nI n), .int pv, .int wr, .ref u5, .ref u6, .ref u7, .ref u8, .ref u9, .ref u10, .ref u11, .int (nI cn), .ref u13, .int (nI hc), .ref u15, .ref u16, .ref u17, .ref u18, .ref u19, .ref u20, .int (nI ns), .ref u22, .int (nI pz)])), (u16, .inl (cI, 100, .inl fe)), (u20, .inl (cI, 100, .inl fc))]) A) ([.ref mm, .int x, .int y] : List Value).toArray s 0 0 A := ⟨_, rfl⟩
  show W p l e ({ frames := 1, cells := 0, slots := 0, locals := 23 }) s m ([.ref mm, .int x, .int y] : List Value).toArray below meth c s.heap [] 0 0 (MQ below (va_Qi (fun (r : Int32) (_ : Unit) => r = cond (li_has ns x && mo_day y) (mo_late fc fe x.toNatClampNeg y) (-1)) (fun _ => wy_N (dC, dI) ga_cl [(cI, .int)] A [(mm, .inr (5, [.int 0, .ref u1, .int (nI n), .int pv, .int wr, .ref u5, .ref u6, .ref u7, .ref u8, .ref u9, .ref u10, .ref u11, .int (nI cn), .ref u13, .int (nI hc), .ref u15, .ref u16, .ref u17, .ref u18, .ref u19, .ref u20, .int (nI ns), .ref u22, .int (nI pz)])), (u16, .inl (cI, 100, .inl fe)), (u20, .inl (cI, 100, .inl fc))]) A) ([.ref mm, .int x, .int y] : List Value).toArray s 0 0 A) (F0 m 0 ls [])
  rw [← hQ]
  refine lv_aload_n hx hb d_Mo_late_0 rfl (lv_at hl 0 rfl) ?_
  refine lv_iconst (v := 0) hx hb d_Mo_late_1 (by decide) ?_
  refine va_put (D := (dC, dI)) (ci := 5) (v := .int 0) (ty := .int) (C := "PatternTextModel") (T := F_Mo) (N := 24) hx hb hts iw_Mo t_Mo t_Mo_ok n_Mo hown hK hP hD hS 0 rfl rfl 0 (by decide) (hts _ kw_560) (fun _ h9 => h9) rfl (by decide +kernel) rfl rfl (Nat.le_of_ble_eq_true rfl) d_Mo_late_2 (fun H locs hP hD hS => ?_)
  have hP : va_P (dC, dI) ga_cl [(mm, .inr (5, [.int 0, .ref u1, .int (nI n), .int pv, .int wr, .ref u5, .ref u6, .ref u7, .ref u8, .ref u9, .ref u10, .ref u11, .int (nI cn), .ref u13, .int (nI hc), .ref u15, .ref u16, .ref u17, .ref u18, .ref u19, .ref u20, .int (nI ns), .ref u22, .int (nI pz)])), (u16, .inl (cI, 100, .inl fe)), (u20, .inl (cI, 100, .inl fc))] H := hP
  have hD : va_D A [(mm, .inr (5, [.int 0, .ref u1, .int (nI n), .int pv, .int wr, .ref u5, .ref u6, .ref u7, .ref u8, .ref u9, .ref u10, .ref u11, .int (nI cn), .ref u13, .int (nI hc), .ref u15, .ref u16, .ref u17, .ref u18, .ref u19, .ref u20, .int (nI ns), .ref u22, .int (nI pz)])), (u16, .inl (cI, 100, .inl fe)), (u20, .inl (cI, 100, .inl fc))] := hD
  refine lv_aload_n hx hb d_Mo_late_5 rfl (lv_at hl 0 rfl) ?_
  refine lv_iload_n hx hb d_Mo_late_6 rfl (lv_at hl 1 rfl) ?_
  refine vp_callSi (va_runV (As := [.int x]) (rest := []) ⟨hx, hb, hml, hown, hts⟩ (c_Mo_isIssue l dC dI mm u1 u5 u6 u7 u8 u9 u10 u11 u13 u15 u16 u17 u18 u19 u20 u22 0 n pv wr cn hc ns pz x ) (cwV 1 hts (ga_V kw_735 kw_737 kw_29 kw_38 (ga_in kw_738)) rfl rfl rfl (by decide +kernel) ⟨Nat.le_of_ble_eq_true rfl, Nat.le_of_ble_eq_true rfl⟩) (wy_preV 0 (hP.sub (ws' := [(mm, .inr (5, [.int 0, .ref u1, .int (nI n), .int pv, .int wr, .ref u5, .ref u6, .ref u7, .ref u8, .ref u9, .ref u10, .ref u11, .int (nI cn), .ref u13, .int (nI hc), .ref u15, .ref u16, .ref u17, .ref u18, .ref u19, .ref u20, .int (nI ns), .ref u22, .int (nI pz)]))]) [0] rfl) (hK.sub (tys' := []) [] rfl) hN (ci := 5) rfl rfl rfl) rfl rfl hl.1 rfl (lv_room (Nat.le_of_ble_eq_true rfl)) d_Mo_late_7 ⟨Nat.le_of_ble_eq_true rfl, Nat.le_of_ble_eq_true rfl⟩).run (fun r_7 h_7 => ?_)
  subst h_7
  refine wy_ifeqB (tgt := 29) hx hb d_Mo_late_10 (by decide) (fun c_10 => ?_) (fun c_10 => ?_)
  · refine lv_iconst (v := -1) hx hb d_Mo_late_29 (by decide) ?_
    rw [hQ]
    have q9 : ((-1) : Int32) = cond (li_has ns x && mo_day y) (mo_late fc fe x.toNatClampNeg y) (-1) := by rw [c_10]; rfl
    have e9 : ([(mm, .inr (5, [.int 0, .ref u1, .int (nI n), .int pv, .int wr, .ref u5, .ref u6, .ref u7, .ref u8, .ref u9, .ref u10, .ref u11, .int (nI cn), .ref u13, .int (nI hc), .ref u15, .ref u16, .ref u17, .ref u18, .ref u19, .ref u20, .int (nI ns), .ref u22, .int (nI pz)])), (u16, .inl (cI, 100, .inl fe)), (u20, .inl (cI, 100, .inl fc))] : va_W) = [(mm, .inr (5, [.int 0, .ref u1, .int (nI n), .int pv, .int wr, .ref u5, .ref u6, .ref u7, .ref u8, .ref u9, .ref u10, .ref u11, .int (nI cn), .ref u13, .int (nI hc), .ref u15, .ref u16, .ref u17, .ref u18, .ref u19, .ref u20, .int (nI ns), .ref u22, .int (nI pz)])), (u16, .inl (cI, 100, .inl fe)), (u20, .inl (cI, 100, .inl fc))] := by rfl
    exact W.iret (v := (-1)) hx hb hr (fun t ht hW => ⟨⟨_, (), rfl, q9, by rw [ht, e9]; exact hP, va_K.moved hW.alike hK, by rw [e9]; exact hD⟩, hS.F ht⟩) hS.2.2 d_Mo_late_30
  · obtain ⟨k, hk, rfl⟩ := li_has_of (by omega) c_10
    have c_10 : li_has ns (nI k) = true := by rw [li_has_nI (by omega) (by omega), decide_eq_true hk]
    refine lv_iload_n hx hb d_Mo_late_13 rfl (lv_at hl 2 rfl) ?_
    refine vp_callSi (va_runS (As := [.int y]) (rest := []) ⟨hx, hb, hml, hown, hts⟩ (c_Mo_isDay l dC dI y ) (cwS 1 hts (ga_S kw_703 kw_704 kw_38 (ga_in kw_705)) rfl rfl rfl (by decide +kernel) ⟨Nat.le_of_ble_eq_true rfl, Nat.le_of_ble_eq_true rfl⟩) (wy_preS (hP.sub (ws' := []) [] rfl) (hK.sub (tys' := []) [] rfl) hN) rfl rfl hl.1 rfl (lv_room (Nat.le_of_ble_eq_true rfl)) d_Mo_late_14 ⟨Nat.le_of_ble_eq_true rfl, Nat.le_of_ble_eq_true rfl⟩).run (fun r_14 h_14 => ?_)
    subst h_14
    refine wy_ifeqB (tgt := 29) hx hb d_Mo_late_17 (by decide) (fun c_17 => ?_) (fun c_17 => ?_)
    · refine lv_iconst (v := -1) hx hb d_Mo_late_29 (by decide) ?_
      rw [hQ]
      have q9 : ((-1) : Int32) = cond (li_has ns (nI k) && mo_day y) (mo_late fc fe (nI k).toNatClampNeg y) (-1) := by rw [c_10, c_17]; rfl
      have e9 : ([(mm, .inr (5, [.int 0, .ref u1, .int (nI n), .int pv, .int wr, .ref u5, .ref u6, .ref u7, .ref u8, .ref u9, .ref u10, .ref u11, .int (nI cn), .ref u13, .int (nI hc), .ref u15, .ref u16, .ref u17, .ref u18, .ref u19, .ref u20, .int (nI ns), .ref u22, .int (nI pz)])), (u16, .inl (cI, 100, .inl fe)), (u20, .inl (cI, 100, .inl fc))] : va_W) = [(mm, .inr (5, [.int 0, .ref u1, .int (nI n), .int pv, .int wr, .ref u5, .ref u6, .ref u7, .ref u8, .ref u9, .ref u10, .ref u11, .int (nI cn), .ref u13, .int (nI hc), .ref u15, .ref u16, .ref u17, .ref u18, .ref u19, .ref u20, .int (nI ns), .ref u22, .int (nI pz)])), (u16, .inl (cI, 100, .inl fe)), (u20, .inl (cI, 100, .inl fc))] := by rfl
      exact W.iret (v := (-1)) hx hb hr (fun t ht hW => ⟨⟨_, (), rfl, q9, by rw [ht, e9]; exact hP, va_K.moved hW.alike hK, by rw [e9]; exact hD⟩, hS.F ht⟩) hS.2.2 d_Mo_late_30
    · refine lv_aload_n hx hb d_Mo_late_20 rfl (lv_at hl 0 rfl) ?_
      refine lv_iload_n hx hb d_Mo_late_21 rfl (lv_at hl 1 rfl) ?_
      refine lv_iload_n hx hb d_Mo_late_22 rfl (lv_at hl 2 rfl) ?_
      refine vp_callSi (va_runV (As := [.int (nI k), .int y]) (rest := []) ⟨hx, hb, hml, hown, hts⟩ (c_Mo_lateOn l dC dI mm u1 u5 u6 u7 u8 u9 u10 u11 u13 u15 u16 u17 u18 u19 u20 u22 0 n pv wr cn hc ns pz cI fe fc k y (by omega)) (cwV 2 hts (ga_V kw_759 kw_761 kw_31 kw_38 (ga_in kw_762)) rfl rfl rfl (by decide +kernel) ⟨Nat.le_of_ble_eq_true rfl, Nat.le_of_ble_eq_true rfl⟩) (wy_preV 0 (hP.sub (ws' := [(mm, .inr (5, [.int 0, .ref u1, .int (nI n), .int pv, .int wr, .ref u5, .ref u6, .ref u7, .ref u8, .ref u9, .ref u10, .ref u11, .int (nI cn), .ref u13, .int (nI hc), .ref u15, .ref u16, .ref u17, .ref u18, .ref u19, .ref u20, .int (nI ns), .ref u22, .int (nI pz)])), (u16, .inl (cI, 100, .inl fe)), (u20, .inl (cI, 100, .inl fc))]) [0, 1, 2] rfl) (hK.sub (tys' := [(cI, .int)]) [0] rfl) hN (ci := 5) rfl rfl rfl) rfl rfl hl.1 rfl (lv_room (Nat.le_of_ble_eq_true rfl)) d_Mo_late_23 ⟨Nat.le_of_ble_eq_true rfl, Nat.le_of_ble_eq_true rfl⟩).run (fun r_23 h_23 => ?_)
      subst h_23
      refine lv_goto (tgt := 30) hx hb d_Mo_late_26 (by decide) ?_
      rw [hQ]
      have q9 : (mo_late fc fe k y : Int32) = cond (li_has ns (nI k) && mo_day y) (mo_late fc fe (nI k).toNatClampNeg y) (-1) := by rw [c_10, c_17]; rw [nI_clamp (by omega)]; rfl
      have e9 : ([(mm, .inr (5, [.int 0, .ref u1, .int (nI n), .int pv, .int wr, .ref u5, .ref u6, .ref u7, .ref u8, .ref u9, .ref u10, .ref u11, .int (nI cn), .ref u13, .int (nI hc), .ref u15, .ref u16, .ref u17, .ref u18, .ref u19, .ref u20, .int (nI ns), .ref u22, .int (nI pz)])), (u16, .inl (cI, 100, .inl fe)), (u20, .inl (cI, 100, .inl fc))] : va_W) = [(mm, .inr (5, [.int 0, .ref u1, .int (nI n), .int pv, .int wr, .ref u5, .ref u6, .ref u7, .ref u8, .ref u9, .ref u10, .ref u11, .int (nI cn), .ref u13, .int (nI hc), .ref u15, .ref u16, .ref u17, .ref u18, .ref u19, .ref u20, .int (nI ns), .ref u22, .int (nI pz)])), (u16, .inl (cI, 100, .inl fe)), (u20, .inl (cI, 100, .inl fc))] := by rfl
      exact W.iret (v := mo_late fc fe k y) hx hb hr (fun t ht hW => ⟨⟨_, (), rfl, q9, by rw [ht, e9]; exact hP, va_K.moved hW.alike hK, by rw [e9]; exact hD⟩, hS.F ht⟩) hS.2.2 d_Mo_late_30

set_option maxHeartbeats 4000000 in
set_option maxRecDepth 100000 in
theorem c_Mo_irregular (l : Launch) (dC : Nat → ClassId) (dI : Nat → Nat → Nat) (sz : Nat) (mm : Nat) (u1 : Nat) (u5 : Nat) (u6 : Nat) (u7 : Nat) (u8 : Nat) (u9 : Nat) (u10 : Nat) (u11 : Nat) (u13 : Nat) (u15 : Nat) (u16 : Nat) (u17 : Nat) (u18 : Nat) (u19 : Nat) (u20 : Nat) (u22 : Nat) (th : Int32) (n : Nat) (pv : Int32) (wr : Int32) (cn : Nat) (hc : Nat) (ns : Nat) (pz : Nat) (cI : ClassId) (fe : Nat → Int32) (fc : Nat → Int32) (x : Int32) (y : Int32) (hn : ns ≤ 100) : Met l y_Mo_irregular w_Mo_irregular ({ frames := 1, cells := 0, slots := 0, locals := 21 }) (va_Pc [.ref mm, .int x, .int y] (wy_M (dC, dI) ga_cl [(mm, .inr (5, [.int th, .ref u1, .int (nI n), .int pv, .int wr, .ref u5, .ref u6, .ref u7, .ref u8, .ref u9, .ref u10, .ref u11, .int (nI cn), .ref u13, .int (nI hc), .ref u15, .ref u16, .ref u17, .ref u18, .ref u19, .ref u20, .int (nI ns), .ref u22, .int (nI pz)])), (u16, .inl (cI, 100, .inl fe)), (u20, .inl (cI, 100, .inl fc))] [(cI, .int)] sz)) (va_Qi (fun (r : Int32) (_ : Unit) => r = bo_I (li_has ns x && (mo_day y && decide (fc x.toNatClampNeg = (-1))))) (fun _ => wy_N (dC, dI) ga_cl [(cI, .int)] (va_A [(mm, .inr (5, [.int th, .ref u1, .int (nI n), .int pv, .int wr, .ref u5, .ref u6, .ref u7, .ref u8, .ref u9, .ref u10, .ref u11, .int (nI cn), .ref u13, .int (nI hc), .ref u15, .ref u16, .ref u17, .ref u18, .ref u19, .ref u20, .int (nI ns), .ref u22, .int (nI pz)])), (u16, .inl (cI, 100, .inl fe)), (u20, .inl (cI, 100, .inl fc))] sz) [(mm, .inr (5, [.int 0, .ref u1, .int (nI n), .int pv, .int wr, .ref u5, .ref u6, .ref u7, .ref u8, .ref u9, .ref u10, .ref u11, .int (nI cn), .ref u13, .int (nI hc), .ref u15, .ref u16, .ref u17, .ref u18, .ref u19, .ref u20, .int (nI ns), .ref u22, .int (nI pz)])), (u16, .inl (cI, 100, .inl (cond (li_has ns x && (mo_day y && decide (fc x.toNatClampNeg = (-1)))) (upd fe x.toNatClampNeg y) fe))), (u20, .inl (cI, 100, .inl fc))]) (va_A [(mm, .inr (5, [.int th, .ref u1, .int (nI n), .int pv, .int wr, .ref u5, .ref u6, .ref u7, .ref u8, .ref u9, .ref u10, .ref u11, .int (nI cn), .ref u13, .int (nI hc), .ref u15, .ref u16, .ref u17, .ref u18, .ref u19, .ref u20, .int (nI ns), .ref u22, .int (nI pz)])), (u16, .inl (cI, 100, .inl fe)), (u20, .inl (cI, 100, .inl fc))] sz)) 0 0 (va_A [(mm, .inr (5, [.int th, .ref u1, .int (nI n), .int pv, .int wr, .ref u5, .ref u6, .ref u7, .ref u8, .ref u9, .ref u10, .ref u11, .int (nI cn), .ref u13, .int (nI hc), .ref u15, .ref u16, .ref u17, .ref u18, .ref u19, .ref u20, .int (nI ns), .ref u22, .int (nI pz)])), (u16, .inl (cI, 100, .inl fe)), (u20, .inl (cI, 100, .inl fc))] sz) := by
  refine Met.ofW (cc := b_Mo_irregular) (maxL := 3) (ret := (some .int)) (by decide) rfl ?_
  intro p e s m args below meth c s₁ B hml hv
  obtain ⟨rfl, hsz, hP, hK, hN, hD0⟩ := hv
  have hx := B.exec
  have hb := B.bytes
  have hr := B.returns
  have hts : ∀ w ∈ ga_tbl, w.before _ s = true := fun w h => atoms_spec (ws := w_Mo_irregular) B.pre w (List.mem_cons_of_mem _ h)
  have hown : s.vm.findClass "PatternTextModel" = some m.cls := findClass_of_methodNamed B.named
  have hlocks := B.notSynchronized
  subst hsz
  have hD := hD0.self (sz := s.heap.size)
  generalize hAe : va_A [(mm, .inr (5, [.int th, .ref u1, .int (nI n), .int pv, .int wr, .ref u5, .ref u6, .ref u7, .ref u8, .ref u9, .ref u10, .ref u11, .int (nI cn), .ref u13, .int (nI hc), .ref u15, .ref u16, .ref u17, .ref u18, .ref u19, .ref u20, .int (nI ns), .ref u22, .int (nI pz)])), (u16, .inl (cI, 100, .inl fe)), (u20, .inl (cI, 100, .inl fc))] s.heap.size = A at hD ⊢
  have hA : ∀ q : Nat, s.heap.size ≤ q → A q := fun q h => by rw [← hAe]; exact Or.inr h
  have hS : va_S A s.heap s.heap [] := va_S.rf
  have hl := lv_entry ([.ref mm, .int x, .int y]) (n := 3) (Nat.le_of_ble_eq_true rfl)
  rw [lg_entry_eq]
  generalize (lg_sl ([.ref mm, .int x, .int y]) ++ List.replicate (3 - (lg_sl ([.ref mm, .int x, .int y])).length) Slot.unset).toArray = ls at hl ⊢
  have hl : lv_has ls 3 [(0, .ref mm), (1, .int x), (2, .int y)] := hl
  obtain ⟨Q0, hQ⟩ : ∃ Q0 : State → Prop, Q0 = MQ below (va_Qi (fun (r : Int32) (_ : Unit) => r = bo_I (li_has ns x && (mo_day y && decide (fc x.toNatClampNeg = (-1))))) (fun _ => wy_N (dC, dI) ga_cl [(cI, .int)] A [(mm, .inr (5, [.int 0, .ref u1, .int (nI n), .int pv, .int wr, .ref u5, .ref u6, .ref u7, .ref u8, .ref u9, .ref u10, .ref u11, .int (nI cn), .ref u13, .int (nI hc), .ref u15, .ref u16, .ref u17, .ref u18, .ref u19, .ref u20, .int (nI ns), .ref u22, .int (nI pz)])), (u16, .inl (cI, 100, .inl (cond (li_has ns x && (mo_day y && decide (fc x.toNatClampNeg = (-1)))) (upd fe x.toNatClampNeg y) fe))), (u20, .inl (cI, 100, .inl fc))]) A) ([.ref mm, .int x, .int y] : List Value).toArray s 0 0 A := ⟨_, rfl⟩
  show W p l e ({ frames := 1, cells := 0, slots := 0, locals := 21 }) s m ([.ref mm, .int x, .int y] : List Value).toArray below meth c s.heap [] 0 0 (MQ below (va_Qi (fun (r : Int32) (_ : Unit) => r = bo_I (li_has ns x && (mo_day y && decide (fc x.toNatClampNeg = (-1))))) (fun _ => wy_N (dC, dI) ga_cl [(cI, .int)] A [(mm, .inr (5, [.int 0, .ref u1, .int (nI n), .int pv, .int wr, .ref u5, .ref u6, .ref u7, .ref u8, .ref u9, .ref u10, .ref u11, .int (nI cn), .ref u13, .int (nI hc), .ref u15, .ref u16, .ref u17, .ref u18, .ref u19, .ref u20, .int (nI ns), .ref u22, .int (nI pz)])), (u16, .inl (cI, 100, .inl (cond (li_has ns x && (mo_day y && decide (fc x.toNatClampNeg = (-1)))) (upd fe x.toNatClampNeg y) fe))), (u20, .inl (cI, 100, .inl fc))]) A) ([.ref mm, .int x, .int y] : List Value).toArray s 0 0 A) (F0 m 0 ls [])
  rw [← hQ]
  refine lv_aload_n hx hb d_Mo_irregular_0 rfl (lv_at hl 0 rfl) ?_
  refine lv_iconst (v := 0) hx hb d_Mo_irregular_1 (by decide) ?_
  refine va_put (D := (dC, dI)) (ci := 5) (v := .int 0) (ty := .int) (C := "PatternTextModel") (T := F_Mo) (N := 24) hx hb hts iw_Mo t_Mo t_Mo_ok n_Mo hown hK hP hD hS 0 rfl rfl 0 (by decide) (hts _ kw_560) (fun _ h9 => h9) rfl (by decide +kernel) rfl rfl (Nat.le_of_ble_eq_true rfl) d_Mo_irregular_2 (fun H locs hP hD hS => ?_)
  have hP : va_P (dC, dI) ga_cl [(mm, .inr (5, [.int 0, .ref u1, .int (nI n), .int pv, .int wr, .ref u5, .ref u6, .ref u7, .ref u8, .ref u9, .ref u10, .ref u11, .int (nI cn), .ref u13, .int (nI hc), .ref u15, .ref u16, .ref u17, .ref u18, .ref u19, .ref u20, .int (nI ns), .ref u22, .int (nI pz)])), (u16, .inl (cI, 100, .inl fe)), (u20, .inl (cI, 100, .inl fc))] H := hP
  have hD : va_D A [(mm, .inr (5, [.int 0, .ref u1, .int (nI n), .int pv, .int wr, .ref u5, .ref u6, .ref u7, .ref u8, .ref u9, .ref u10, .ref u11, .int (nI cn), .ref u13, .int (nI hc), .ref u15, .ref u16, .ref u17, .ref u18, .ref u19, .ref u20, .int (nI ns), .ref u22, .int (nI pz)])), (u16, .inl (cI, 100, .inl fe)), (u20, .inl (cI, 100, .inl fc))] := hD
  refine lv_aload_n hx hb d_Mo_irregular_5 rfl (lv_at hl 0 rfl) ?_
  refine lv_iload_n hx hb d_Mo_irregular_6 rfl (lv_at hl 1 rfl) ?_
  refine vp_callSi (va_runV (As := [.int x]) (rest := []) ⟨hx, hb, hml, hown, hts⟩ (c_Mo_isIssue l dC dI mm u1 u5 u6 u7 u8 u9 u10 u11 u13 u15 u16 u17 u18 u19 u20 u22 0 n pv wr cn hc ns pz x ) (cwV 1 hts (ga_V kw_735 kw_737 kw_29 kw_38 (ga_in kw_738)) rfl rfl rfl (by decide +kernel) ⟨Nat.le_of_ble_eq_true rfl, Nat.le_of_ble_eq_true rfl⟩) (wy_preV 0 (hP.sub (ws' := [(mm, .inr (5, [.int 0, .ref u1, .int (nI n), .int pv, .int wr, .ref u5, .ref u6, .ref u7, .ref u8, .ref u9, .ref u10, .ref u11, .int (nI cn), .ref u13, .int (nI hc), .ref u15, .ref u16, .ref u17, .ref u18, .ref u19, .ref u20, .int (nI ns), .ref u22, .int (nI pz)]))]) [0] rfl) (hK.sub (tys' := []) [] rfl) hN (ci := 5) rfl rfl rfl) rfl rfl hl.1 rfl (lv_room (Nat.le_of_ble_eq_true rfl)) d_Mo_irregular_7 ⟨Nat.le_of_ble_eq_true rfl, Nat.le_of_ble_eq_true rfl⟩).run (fun r_7 h_7 => ?_)
  subst h_7
  refine wy_ifeqB (tgt := 30) hx hb d_Mo_irregular_10 (by decide) (fun c_10 => ?_) (fun c_10 => ?_)
  · refine lv_iconst (v := 0) hx hb d_Mo_irregular_30 (by decide) ?_
    rw [hQ]
    have z9 : (li_has ns x && (mo_day y && decide (fc x.toNatClampNeg = (-1)))) = false := by rw [c_10]; rfl
    have q9 : (0 : Int32) = bo_I (li_has ns x && (mo_day y && decide (fc x.toNatClampNeg = (-1)))) := by rw [z9]; rfl
    have e9 : ([(mm, .inr (5, [.int 0, .ref u1, .int (nI n), .int pv, .int wr, .ref u5, .ref u6, .ref u7, .ref u8, .ref u9, .ref u10, .ref u11, .int (nI cn), .ref u13, .int (nI hc), .ref u15, .ref u16, .ref u17, .ref u18, .ref u19, .ref u20, .int (nI ns), .ref u22, .int (nI pz)])), (u16, .inl (cI, 100, .inl (cond (li_has ns x && (mo_day y && decide (fc x.toNatClampNeg = (-1)))) (upd fe x.toNatClampNeg y) fe))), (u20, .inl (cI, 100, .inl fc))] : va_W) = [(mm, .inr (5, [.int 0, .ref u1, .int (nI n), .int pv, .int wr, .ref u5, .ref u6, .ref u7, .ref u8, .ref u9, .ref u10, .ref u11, .int (nI cn), .ref u13, .int (nI hc), .ref u15, .ref u16, .ref u17, .ref u18, .ref u19, .ref u20, .int (nI ns), .ref u22, .int (nI pz)])), (u16, .inl (cI, 100, .inl fe)), (u20, .inl (cI, 100, .inl fc))] := by rw [z9] <;> first | rfl | (rw [nI_clamp (by omega)]; rfl)
    exact W.iret (v := 0) hx hb hr (fun t ht hW => ⟨⟨_, (), rfl, q9, by rw [ht, e9]; exact hP, va_K.moved hW.alike hK, by rw [e9]; exact hD⟩, hS.F ht⟩) hS.2.2 d_Mo_irregular_31
  · obtain ⟨k, hk, rfl⟩ := li_has_of (by omega) c_10
    have c_10 : li_has ns (nI k) = true := by rw [li_has_nI (by omega) (by omega), decide_eq_true hk]
    refine lv_iload_n hx hb d_Mo_irregular_13 rfl (lv_at hl 2 rfl) ?_
    refine vp_callSi (va_runS (As := [.int y]) (rest := []) ⟨hx, hb, hml, hown, hts⟩ (c_Mo_isDay l dC dI y ) (cwS 1 hts (ga_S kw_703 kw_704 kw_38 (ga_in kw_705)) rfl rfl rfl (by decide +kernel) ⟨Nat.le_of_ble_eq_true rfl, Nat.le_of_ble_eq_true rfl⟩) (wy_preS (hP.sub (ws' := []) [] rfl) (hK.sub (tys' := []) [] rfl) hN) rfl rfl hl.1 rfl (lv_room (Nat.le_of_ble_eq_true rfl)) d_Mo_irregular_14 ⟨Nat.le_of_ble_eq_true rfl, Nat.le_of_ble_eq_true rfl⟩).run (fun r_14 h_14 => ?_)
    subst h_14
    refine wy_ifeqB (tgt := 30) hx hb d_Mo_irregular_17 (by decide) (fun c_17 => ?_) (fun c_17 => ?_)
    · refine lv_iconst (v := 0) hx hb d_Mo_irregular_30 (by decide) ?_
      rw [hQ]
      have z9 : (li_has ns (nI k) && (mo_day y && decide (fc (nI k).toNatClampNeg = (-1)))) = false := by rw [c_10, c_17]; rfl
      have q9 : (0 : Int32) = bo_I (li_has ns (nI k) && (mo_day y && decide (fc (nI k).toNatClampNeg = (-1)))) := by rw [z9]; rfl
      have e9 : ([(mm, .inr (5, [.int 0, .ref u1, .int (nI n), .int pv, .int wr, .ref u5, .ref u6, .ref u7, .ref u8, .ref u9, .ref u10, .ref u11, .int (nI cn), .ref u13, .int (nI hc), .ref u15, .ref u16, .ref u17, .ref u18, .ref u19, .ref u20, .int (nI ns), .ref u22, .int (nI pz)])), (u16, .inl (cI, 100, .inl (cond (li_has ns (nI k) && (mo_day y && decide (fc (nI k).toNatClampNeg = (-1)))) (upd fe (nI k).toNatClampNeg y) fe))), (u20, .inl (cI, 100, .inl fc))] : va_W) = [(mm, .inr (5, [.int 0, .ref u1, .int (nI n), .int pv, .int wr, .ref u5, .ref u6, .ref u7, .ref u8, .ref u9, .ref u10, .ref u11, .int (nI cn), .ref u13, .int (nI hc), .ref u15, .ref u16, .ref u17, .ref u18, .ref u19, .ref u20, .int (nI ns), .ref u22, .int (nI pz)])), (u16, .inl (cI, 100, .inl fe)), (u20, .inl (cI, 100, .inl fc))] := by rw [z9] <;> first | rfl | (rw [nI_clamp (by omega)]; rfl)
      exact W.iret (v := 0) hx hb hr (fun t ht hW => ⟨⟨_, (), rfl, q9, by rw [ht, e9]; exact hP, va_K.moved hW.alike hK, by rw [e9]; exact hD⟩, hS.F ht⟩) hS.2.2 d_Mo_irregular_31
    · refine lv_aload_n hx hb d_Mo_irregular_20 rfl (lv_at hl 0 rfl) ?_
      refine va_get (D := (dC, dI)) (ci := 5) (v := .ref u20) (C := "PatternTextModel") (T := F_Mo) (N := 24) hx hb hts iw_Mo hown hK hP 0 rfl rfl 20 (by decide) (hts _ kw_580) (fun _ h9 => h9) rfl d_Mo_irregular_21 ?_
      refine lv_iload_n hx hb d_Mo_irregular_24 rfl (lv_at hl 1 rfl) ?_
      refine wy_iald hx hb hK hP 2 0 k rfl rfl (by omega) (by omega) d_Mo_irregular_25 ?_
      refine lv_iconst (v := -1) hx hb d_Mo_irregular_26 (by decide) ?_
      refine lv_icmp_eq (tgt := 32) hx hb d_Mo_irregular_27 (by decide) (fun c_27 => ?_) (fun c_27 => ?_)
      · refine lv_aload_n hx hb d_Mo_irregular_32 rfl (lv_at hl 0 rfl) ?_
        refine va_get (D := (dC, dI)) (ci := 5) (v := .ref u16) (C := "PatternTextModel") (T := F_Mo) (N := 24) hx hb hts iw_Mo hown hK hP 0 rfl rfl 16 (by decide) (hts _ kw_576) (fun _ h9 => h9) rfl d_Mo_irregular_33 ?_
        refine lv_iload_n hx hb d_Mo_irregular_36 rfl (lv_at hl 1 rfl) ?_
        refine lv_iload_n hx hb d_Mo_irregular_37 rfl (lv_at hl 2 rfl) ?_
        refine wy_iast hx hb hK hP hD hS 1 0 k rfl rfl (by omega) (by omega) d_Mo_irregular_38 (fun H locs hP hD hS => ?_)
        have hP : va_P (dC, dI) ga_cl [(mm, .inr (5, [.int 0, .ref u1, .int (nI n), .int pv, .int wr, .ref u5, .ref u6, .ref u7, .ref u8, .ref u9, .ref u10, .ref u11, .int (nI cn), .ref u13, .int (nI hc), .ref u15, .ref u16, .ref u17, .ref u18, .ref u19, .ref u20, .int (nI ns), .ref u22, .int (nI pz)])), (u16, .inl (cI, 100, .inl (upd fe k y))), (u20, .inl (cI, 100, .inl fc))] H := hP
        have hD : va_D A [(mm, .inr (5, [.int 0, .ref u1, .int (nI n), .int pv, .int wr, .ref u5, .ref u6, .ref u7, .ref u8, .ref u9, .ref u10, .ref u11, .int (nI cn), .ref u13, .int (nI hc), .ref u15, .ref u16, .ref u17, .ref u18, .ref u19, .ref u20, .int (nI ns), .ref u22, .int (nI pz)])), (u16, .inl (cI, 100, .inl (upd fe k y))), (u20, .inl (cI, 100, .inl fc))] := hD
        refine lv_iconst (v := 1) hx hb d_Mo_irregular_39 (by decide) ?_
        rw [hQ]
        have z9 : (li_has ns (nI k) && (mo_day y && decide (fc (nI k).toNatClampNeg = (-1)))) = true := by rw [c_10, c_17, nI_clamp (by omega), decide_eq_true c_27]; rfl
        have q9 : (1 : Int32) = bo_I (li_has ns (nI k) && (mo_day y && decide (fc (nI k).toNatClampNeg = (-1)))) := by rw [z9]; rfl
        have e9 : ([(mm, .inr (5, [.int 0, .ref u1, .int (nI n), .int pv, .int wr, .ref u5, .ref u6, .ref u7, .ref u8, .ref u9, .ref u10, .ref u11, .int (nI cn), .ref u13, .int (nI hc), .ref u15, .ref u16, .ref u17, .ref u18, .ref u19, .ref u20, .int (nI ns), .ref u22, .int (nI pz)])), (u16, .inl (cI, 100, .inl (cond (li_has ns (nI k) && (mo_day y && decide (fc (nI k).toNatClampNeg = (-1)))) (upd fe (nI k).toNatClampNeg y) fe))), (u20, .inl (cI, 100, .inl fc))] : va_W) = [(mm, .inr (5, [.int 0, .ref u1, .int (nI n), .int pv, .int wr, .ref u5, .ref u6, .ref u7, .ref u8, .ref u9, .ref u10, .ref u11, .int (nI cn), .ref u13, .int (nI hc), .ref u15, .ref u16, .ref u17, .ref u18, .ref u19, .ref u20, .int (nI ns), .ref u22, .int (nI pz)])), (u16, .inl (cI, 100, .inl (upd fe k y))), (u20, .inl (cI, 100, .inl fc))] := by rw [z9] <;> first | rfl | (rw [nI_clamp (by omega)]; rfl)
        exact W.iret (v := 1) hx hb hr (fun t ht hW => ⟨⟨_, (), rfl, q9, by rw [ht, e9]; exact hP, va_K.moved hW.alike hK, by rw [e9]; exact hD⟩, hS.F ht⟩) hS.2.2 d_Mo_irregular_40
      · refine lv_iconst (v := 0) hx hb d_Mo_irregular_30 (by decide) ?_
        rw [hQ]
        have z9 : (li_has ns (nI k) && (mo_day y && decide (fc (nI k).toNatClampNeg = (-1)))) = false := by rw [c_10, c_17, nI_clamp (by omega), decide_eq_false c_27]; rfl
        have q9 : (0 : Int32) = bo_I (li_has ns (nI k) && (mo_day y && decide (fc (nI k).toNatClampNeg = (-1)))) := by rw [z9]; rfl
        have e9 : ([(mm, .inr (5, [.int 0, .ref u1, .int (nI n), .int pv, .int wr, .ref u5, .ref u6, .ref u7, .ref u8, .ref u9, .ref u10, .ref u11, .int (nI cn), .ref u13, .int (nI hc), .ref u15, .ref u16, .ref u17, .ref u18, .ref u19, .ref u20, .int (nI ns), .ref u22, .int (nI pz)])), (u16, .inl (cI, 100, .inl (cond (li_has ns (nI k) && (mo_day y && decide (fc (nI k).toNatClampNeg = (-1)))) (upd fe (nI k).toNatClampNeg y) fe))), (u20, .inl (cI, 100, .inl fc))] : va_W) = [(mm, .inr (5, [.int 0, .ref u1, .int (nI n), .int pv, .int wr, .ref u5, .ref u6, .ref u7, .ref u8, .ref u9, .ref u10, .ref u11, .int (nI cn), .ref u13, .int (nI hc), .ref u15, .ref u16, .ref u17, .ref u18, .ref u19, .ref u20, .int (nI ns), .ref u22, .int (nI pz)])), (u16, .inl (cI, 100, .inl fe)), (u20, .inl (cI, 100, .inl fc))] := by rw [z9] <;> first | rfl | (rw [nI_clamp (by omega)]; rfl)
        exact W.iret (v := 0) hx hb hr (fun t ht hW => ⟨⟨_, (), rfl, q9, by rw [ht, e9]; exact hP, va_K.moved hW.alike hK, by rw [e9]; exact hD⟩, hS.F ht⟩) hS.2.2 d_Mo_irregular_31

set_option maxHeartbeats 4000000 in
set_option maxRecDepth 100000 in
theorem c_Mo_came (l : Launch) (dC : Nat → ClassId) (dI : Nat → Nat → Nat) (sz : Nat) (mm : Nat) (u1 : Nat) (u5 : Nat) (u6 : Nat) (u7 : Nat) (u8 : Nat) (u9 : Nat) (u10 : Nat) (u11 : Nat) (u13 : Nat) (u15 : Nat) (u16 : Nat) (u17 : Nat) (u18 : Nat) (u19 : Nat) (u20 : Nat) (u22 : Nat) (th : Int32) (n : Nat) (pv : Int32) (wr : Int32) (cn : Nat) (hc : Nat) (ns : Nat) (pz : Nat) (cI : ClassId) (fe : Nat → Int32) (fc : Nat → Int32) (x : Int32) (y : Int32) (hn : ns ≤ 100) : Met l y_Mo_came w_Mo_came ({ frames := 1, cells := 0, slots := 0, locals := 21 }) (va_Pc [.ref mm, .int x, .int y] (wy_M (dC, dI) ga_cl [(mm, .inr (5, [.int th, .ref u1, .int (nI n), .int pv, .int wr, .ref u5, .ref u6, .ref u7, .ref u8, .ref u9, .ref u10, .ref u11, .int (nI cn), .ref u13, .int (nI hc), .ref u15, .ref u16, .ref u17, .ref u18, .ref u19, .ref u20, .int (nI ns), .ref u22, .int (nI pz)])), (u16, .inl (cI, 100, .inl fe)), (u20, .inl (cI, 100, .inl fc))] [(cI, .int)] sz)) (va_Qi (fun (r : Int32) (_ : Unit) => r = bo_I (li_has ns x && (mo_day y && decide (fc x.toNatClampNeg = (-1))))) (fun _ => wy_N (dC, dI) ga_cl [(cI, .int)] (va_A [(mm, .inr (5, [.int th, .ref u1, .int (nI n), .int pv, .int wr, .ref u5, .ref u6, .ref u7, .ref u8, .ref u9, .ref u10, .ref u11, .int (nI cn), .ref u13, .int (nI hc), .ref u15, .ref u16, .ref u17, .ref u18, .ref u19, .ref u20, .int (nI ns), .ref u22, .int (nI pz)])), (u16, .inl (cI, 100, .inl fe)), (u20, .inl (cI, 100, .inl fc))] sz) [(mm, .inr (5, [.int 0, .ref u1, .int (nI n), .int pv, .int wr, .ref u5, .ref u6, .ref u7, .ref u8, .ref u9, .ref u10, .ref u11, .int (nI cn), .ref u13, .int (nI hc), .ref u15, .ref u16, .ref u17, .ref u18, .ref u19, .ref u20, .int (nI ns), .ref u22, .int (nI pz)])), (u16, .inl (cI, 100, .inl fe)), (u20, .inl (cI, 100, .inl (cond (li_has ns x && (mo_day y && decide (fc x.toNatClampNeg = (-1)))) (upd fc x.toNatClampNeg y) fc)))]) (va_A [(mm, .inr (5, [.int th, .ref u1, .int (nI n), .int pv, .int wr, .ref u5, .ref u6, .ref u7, .ref u8, .ref u9, .ref u10, .ref u11, .int (nI cn), .ref u13, .int (nI hc), .ref u15, .ref u16, .ref u17, .ref u18, .ref u19, .ref u20, .int (nI ns), .ref u22, .int (nI pz)])), (u16, .inl (cI, 100, .inl fe)), (u20, .inl (cI, 100, .inl fc))] sz)) 0 0 (va_A [(mm, .inr (5, [.int th, .ref u1, .int (nI n), .int pv, .int wr, .ref u5, .ref u6, .ref u7, .ref u8, .ref u9, .ref u10, .ref u11, .int (nI cn), .ref u13, .int (nI hc), .ref u15, .ref u16, .ref u17, .ref u18, .ref u19, .ref u20, .int (nI ns), .ref u22, .int (nI pz)])), (u16, .inl (cI, 100, .inl fe)), (u20, .inl (cI, 100, .inl fc))] sz) := by
  refine Met.ofW (cc := b_Mo_came) (maxL := 3) (ret := (some .int)) (by decide) rfl ?_
  intro p e s m args below meth c s₁ B hml hv
  obtain ⟨rfl, hsz, hP, hK, hN, hD0⟩ := hv
  have hx := B.exec
  have hb := B.bytes
  have hr := B.returns
  have hts : ∀ w ∈ ga_tbl, w.before _ s = true := fun w h => atoms_spec (ws := w_Mo_came) B.pre w (List.mem_cons_of_mem _ h)
  have hown : s.vm.findClass "PatternTextModel" = some m.cls := findClass_of_methodNamed B.named
  have hlocks := B.notSynchronized
  subst hsz
  have hD := hD0.self (sz := s.heap.size)
  generalize hAe : va_A [(mm, .inr (5, [.int th, .ref u1, .int (nI n), .int pv, .int wr, .ref u5, .ref u6, .ref u7, .ref u8, .ref u9, .ref u10, .ref u11, .int (nI cn), .ref u13, .int (nI hc), .ref u15, .ref u16, .ref u17, .ref u18, .ref u19, .ref u20, .int (nI ns), .ref u22, .int (nI pz)])), (u16, .inl (cI, 100, .inl fe)), (u20, .inl (cI, 100, .inl fc))] s.heap.size = A at hD ⊢
  have hA : ∀ q : Nat, s.heap.size ≤ q → A q := fun q h => by rw [← hAe]; exact Or.inr h
  have hS : va_S A s.heap s.heap [] := va_S.rf
  have hl := lv_entry ([.ref mm, .int x, .int y]) (n := 3) (Nat.le_of_ble_eq_true rfl)
  rw [lg_entry_eq]
  generalize (lg_sl ([.ref mm, .int x, .int y]) ++ List.replicate (3 - (lg_sl ([.ref mm, .int x, .int y])).length) Slot.unset).toArray = ls at hl ⊢
  have hl : lv_has ls 3 [(0, .ref mm), (1, .int x), (2, .int y)] := hl
  obtain ⟨Q0, hQ⟩ : ∃ Q0 : State → Prop, Q0 = MQ below (va_Qi (fun (r : Int32) (_ : Unit) => r = bo_I (li_has ns x && (mo_day y && decide (fc x.toNatClampNeg = (-1))))) (fun _ => wy_N (dC, dI) ga_cl [(cI, .int)] A [(mm, .inr (5, [.int 0, .ref u1, .int (nI n), .int pv, .int wr, .ref u5, .ref u6, .ref u7, .ref u8, .ref u9, .ref u10, .ref u11, .int (nI cn), .ref u13, .int (nI hc), .ref u15, .ref u16, .ref u17, .ref u18, .ref u19, .ref u20, .int (nI ns), .ref u22, .int (nI pz)])), (u16, .inl (cI, 100, .inl fe)), (u20, .inl (cI, 100, .inl (cond (li_has ns x && (mo_day y && decide (fc x.toNatClampNeg = (-1)))) (upd fc x.toNatClampNeg y) fc)))]) A) ([.ref mm, .int x, .int y] : List Value).toArray s 0 0 A := ⟨_, rfl⟩
  show W p l e ({ frames := 1, cells := 0, slots := 0, locals := 21 }) s m ([.ref mm, .int x, .int y] : List Value).toArray below meth c s.heap [] 0 0 (MQ below (va_Qi (fun (r : Int32) (_ : Unit) => r = bo_I (li_has ns x && (mo_day y && decide (fc x.toNatClampNeg = (-1))))) (fun _ => wy_N (dC, dI) ga_cl [(cI, .int)] A [(mm, .inr (5, [.int 0, .ref u1, .int (nI n), .int pv, .int wr, .ref u5, .ref u6, .ref u7, .ref u8, .ref u9, .ref u10, .ref u11, .int (nI cn), .ref u13, .int (nI hc), .ref u15, .ref u16, .ref u17, .ref u18, .ref u19, .ref u20, .int (nI ns), .ref u22, .int (nI pz)])), (u16, .inl (cI, 100, .inl fe)), (u20, .inl (cI, 100, .inl (cond (li_has ns x && (mo_day y && decide (fc x.toNatClampNeg = (-1)))) (upd fc x.toNatClampNeg y) fc)))]) A) ([.ref mm, .int x, .int y] : List Value).toArray s 0 0 A) (F0 m 0 ls [])
  rw [← hQ]
  refine lv_aload_n hx hb d_Mo_came_0 rfl (lv_at hl 0 rfl) ?_
  refine lv_iconst (v := 0) hx hb d_Mo_came_1 (by decide) ?_
  refine va_put (D := (dC, dI)) (ci := 5) (v := .int 0) (ty := .int) (C := "PatternTextModel") (T := F_Mo) (N := 24) hx hb hts iw_Mo t_Mo t_Mo_ok n_Mo hown hK hP hD hS 0 rfl rfl 0 (by decide) (hts _ kw_560) (fun _ h9 => h9) rfl (by decide +kernel) rfl rfl (Nat.le_of_ble_eq_true rfl) d_Mo_came_2 (fun H locs hP hD hS => ?_)
  have hP : va_P (dC, dI) ga_cl [(mm, .inr (5, [.int 0, .ref u1, .int (nI n), .int pv, .int wr, .ref u5, .ref u6, .ref u7, .ref u8, .ref u9, .ref u10, .ref u11, .int (nI cn), .ref u13, .int (nI hc), .ref u15, .ref u16, .ref u17, .ref u18, .ref u19, .ref u20, .int (nI ns), .ref u22, .int (nI pz)])), (u16, .inl (cI, 100, .inl fe)), (u20, .inl (cI, 100, .inl fc))] H := hP
  have hD : va_D A [(mm, .inr (5, [.int 0, .ref u1, .int (nI n), .int pv, .int wr, .ref u5, .ref u6, .ref u7, .ref u8, .ref u9, .ref u10, .ref u11, .int (nI cn), .ref u13, .int (nI hc), .ref u15, .ref u16, .ref u17, .ref u18, .ref u19, .ref u20, .int (nI ns), .ref u22, .int (nI pz)])), (u16, .inl (cI, 100, .inl fe)), (u20, .inl (cI, 100, .inl fc))] := hD
  refine lv_aload_n hx hb d_Mo_came_5 rfl (lv_at hl 0 rfl) ?_
  refine lv_iload_n hx hb d_Mo_came_6 rfl (lv_at hl 1 rfl) ?_
  refine vp_callSi (va_runV (As := [.int x]) (rest := []) ⟨hx, hb, hml, hown, hts⟩ (c_Mo_isIssue l dC dI mm u1 u5 u6 u7 u8 u9 u10 u11 u13 u15 u16 u17 u18 u19 u20 u22 0 n pv wr cn hc ns pz x ) (cwV 1 hts (ga_V kw_735 kw_737 kw_29 kw_38 (ga_in kw_738)) rfl rfl rfl (by decide +kernel) ⟨Nat.le_of_ble_eq_true rfl, Nat.le_of_ble_eq_true rfl⟩) (wy_preV 0 (hP.sub (ws' := [(mm, .inr (5, [.int 0, .ref u1, .int (nI n), .int pv, .int wr, .ref u5, .ref u6, .ref u7, .ref u8, .ref u9, .ref u10, .ref u11, .int (nI cn), .ref u13, .int (nI hc), .ref u15, .ref u16, .ref u17, .ref u18, .ref u19, .ref u20, .int (nI ns), .ref u22, .int (nI pz)]))]) [0] rfl) (hK.sub (tys' := []) [] rfl) hN (ci := 5) rfl rfl rfl) rfl rfl hl.1 rfl (lv_room (Nat.le_of_ble_eq_true rfl)) d_Mo_came_7 ⟨Nat.le_of_ble_eq_true rfl, Nat.le_of_ble_eq_true rfl⟩).run (fun r_7 h_7 => ?_)
  subst h_7
  refine wy_ifeqB (tgt := 30) hx hb d_Mo_came_10 (by decide) (fun c_10 => ?_) (fun c_10 => ?_)
  · refine lv_iconst (v := 0) hx hb d_Mo_came_30 (by decide) ?_
    rw [hQ]
    have z9 : (li_has ns x && (mo_day y && decide (fc x.toNatClampNeg = (-1)))) = false := by rw [c_10]; rfl
    have q9 : (0 : Int32) = bo_I (li_has ns x && (mo_day y && decide (fc x.toNatClampNeg = (-1)))) := by rw [z9]; rfl
    have e9 : ([(mm, .inr (5, [.int 0, .ref u1, .int (nI n), .int pv, .int wr, .ref u5, .ref u6, .ref u7, .ref u8, .ref u9, .ref u10, .ref u11, .int (nI cn), .ref u13, .int (nI hc), .ref u15, .ref u16, .ref u17, .ref u18, .ref u19, .ref u20, .int (nI ns), .ref u22, .int (nI pz)])), (u16, .inl (cI, 100, .inl fe)), (u20, .inl (cI, 100, .inl (cond (li_has ns x && (mo_day y && decide (fc x.toNatClampNeg = (-1)))) (upd fc x.toNatClampNeg y) fc)))] : va_W) = [(mm, .inr (5, [.int 0, .ref u1, .int (nI n), .int pv, .int wr, .ref u5, .ref u6, .ref u7, .ref u8, .ref u9, .ref u10, .ref u11, .int (nI cn), .ref u13, .int (nI hc), .ref u15, .ref u16, .ref u17, .ref u18, .ref u19, .ref u20, .int (nI ns), .ref u22, .int (nI pz)])), (u16, .inl (cI, 100, .inl fe)), (u20, .inl (cI, 100, .inl fc))] := by rw [z9] <;> first | rfl | (rw [nI_clamp (by omega)]; rfl)
    exact W.iret (v := 0) hx hb hr (fun t ht hW => ⟨⟨_, (), rfl, q9, by rw [ht, e9]; exact hP, va_K.moved hW.alike hK, by rw [e9]; exact hD⟩, hS.F ht⟩) hS.2.2 d_Mo_came_31
  · obtain ⟨k, hk, rfl⟩ := li_has_of (by omega) c_10
    have c_10 : li_has ns (nI k) = true := by rw [li_has_nI (by omega) (by omega), decide_eq_true hk]
    refine lv_iload_n hx hb d_Mo_came_13 rfl (lv_at hl 2 rfl) ?_
    refine vp_callSi (va_runS (As := [.int y]) (rest := []) ⟨hx, hb, hml, hown, hts⟩ (c_Mo_isDay l dC dI y ) (cwS 1 hts (ga_S kw_703 kw_704 kw_38 (ga_in kw_705)) rfl rfl rfl (by decide +kernel) ⟨Nat.le_of_ble_eq_true rfl, Nat.le_of_ble_eq_true rfl⟩) (wy_preS (hP.sub (ws' := []) [] rfl) (hK.sub (tys' := []) [] rfl) hN) rfl rfl hl.1 rfl (lv_room (Nat.le_of_ble_eq_true rfl)) d_Mo_came_14 ⟨Nat.le_of_ble_eq_true rfl, Nat.le_of_ble_eq_true rfl⟩).run (fun r_14 h_14 => ?_)
    subst h_14
    refine wy_ifeqB (tgt := 30) hx hb d_Mo_came_17 (by decide) (fun c_17 => ?_) (fun c_17 => ?_)
    · refine lv_iconst (v := 0) hx hb d_Mo_came_30 (by decide) ?_
      rw [hQ]
      have z9 : (li_has ns (nI k) && (mo_day y && decide (fc (nI k).toNatClampNeg = (-1)))) = false := by rw [c_10, c_17]; rfl
      have q9 : (0 : Int32) = bo_I (li_has ns (nI k) && (mo_day y && decide (fc (nI k).toNatClampNeg = (-1)))) := by rw [z9]; rfl
      have e9 : ([(mm, .inr (5, [.int 0, .ref u1, .int (nI n), .int pv, .int wr, .ref u5, .ref u6, .ref u7, .ref u8, .ref u9, .ref u10, .ref u11, .int (nI cn), .ref u13, .int (nI hc), .ref u15, .ref u16, .ref u17, .ref u18, .ref u19, .ref u20, .int (nI ns), .ref u22, .int (nI pz)])), (u16, .inl (cI, 100, .inl fe)), (u20, .inl (cI, 100, .inl (cond (li_has ns (nI k) && (mo_day y && decide (fc (nI k).toNatClampNeg = (-1)))) (upd fc (nI k).toNatClampNeg y) fc)))] : va_W) = [(mm, .inr (5, [.int 0, .ref u1, .int (nI n), .int pv, .int wr, .ref u5, .ref u6, .ref u7, .ref u8, .ref u9, .ref u10, .ref u11, .int (nI cn), .ref u13, .int (nI hc), .ref u15, .ref u16, .ref u17, .ref u18, .ref u19, .ref u20, .int (nI ns), .ref u22, .int (nI pz)])), (u16, .inl (cI, 100, .inl fe)), (u20, .inl (cI, 100, .inl fc))] := by rw [z9] <;> first | rfl | (rw [nI_clamp (by omega)]; rfl)
      exact W.iret (v := 0) hx hb hr (fun t ht hW => ⟨⟨_, (), rfl, q9, by rw [ht, e9]; exact hP, va_K.moved hW.alike hK, by rw [e9]; exact hD⟩, hS.F ht⟩) hS.2.2 d_Mo_came_31
    · refine lv_aload_n hx hb d_Mo_came_20 rfl (lv_at hl 0 rfl) ?_
      refine va_get (D := (dC, dI)) (ci := 5) (v := .ref u20) (C := "PatternTextModel") (T := F_Mo) (N := 24) hx hb hts iw_Mo hown hK hP 0 rfl rfl 20 (by decide) (hts _ kw_580) (fun _ h9 => h9) rfl d_Mo_came_21 ?_
      refine lv_iload_n hx hb d_Mo_came_24 rfl (lv_at hl 1 rfl) ?_
      refine wy_iald hx hb hK hP 2 0 k rfl rfl (by omega) (by omega) d_Mo_came_25 ?_
      refine lv_iconst (v := -1) hx hb d_Mo_came_26 (by decide) ?_
      refine lv_icmp_eq (tgt := 32) hx hb d_Mo_came_27 (by decide) (fun c_27 => ?_) (fun c_27 => ?_)
      · refine lv_aload_n hx hb d_Mo_came_32 rfl (lv_at hl 0 rfl) ?_
        refine va_get (D := (dC, dI)) (ci := 5) (v := .ref u20) (C := "PatternTextModel") (T := F_Mo) (N := 24) hx hb hts iw_Mo hown hK hP 0 rfl rfl 20 (by decide) (hts _ kw_580) (fun _ h9 => h9) rfl d_Mo_came_33 ?_
        refine lv_iload_n hx hb d_Mo_came_36 rfl (lv_at hl 1 rfl) ?_
        refine lv_iload_n hx hb d_Mo_came_37 rfl (lv_at hl 2 rfl) ?_
        refine wy_iast hx hb hK hP hD hS 2 0 k rfl rfl (by omega) (by omega) d_Mo_came_38 (fun H locs hP hD hS => ?_)
        have hP : va_P (dC, dI) ga_cl [(mm, .inr (5, [.int 0, .ref u1, .int (nI n), .int pv, .int wr, .ref u5, .ref u6, .ref u7, .ref u8, .ref u9, .ref u10, .ref u11, .int (nI cn), .ref u13, .int (nI hc), .ref u15, .ref u16, .ref u17, .ref u18, .ref u19, .ref u20, .int (nI ns), .ref u22, .int (nI pz)])), (u16, .inl (cI, 100, .inl fe)), (u20, .inl (cI, 100, .inl (upd fc k y)))] H := hP
        have hD : va_D A [(mm, .inr (5, [.int 0, .ref u1, .int (nI n), .int pv, .int wr, .ref u5, .ref u6, .ref u7, .ref u8, .ref u9, .ref u10, .ref u11, .int (nI cn), .ref u13, .int (nI hc), .ref u15, .ref u16, .ref u17, .ref u18, .ref u19, .ref u20, .int (nI ns), .ref u22, .int (nI pz)])), (u16, .inl (cI, 100, .inl fe)), (u20, .inl (cI, 100, .inl (upd fc k y)))] := hD
        refine lv_iconst (v := 1) hx hb d_Mo_came_39 (by decide) ?_
        rw [hQ]
        have z9 : (li_has ns (nI k) && (mo_day y && decide (fc (nI k).toNatClampNeg = (-1)))) = true := by rw [c_10, c_17, nI_clamp (by omega), decide_eq_true c_27]; rfl
        have q9 : (1 : Int32) = bo_I (li_has ns (nI k) && (mo_day y && decide (fc (nI k).toNatClampNeg = (-1)))) := by rw [z9]; rfl
        have e9 : ([(mm, .inr (5, [.int 0, .ref u1, .int (nI n), .int pv, .int wr, .ref u5, .ref u6, .ref u7, .ref u8, .ref u9, .ref u10, .ref u11, .int (nI cn), .ref u13, .int (nI hc), .ref u15, .ref u16, .ref u17, .ref u18, .ref u19, .ref u20, .int (nI ns), .ref u22, .int (nI pz)])), (u16, .inl (cI, 100, .inl fe)), (u20, .inl (cI, 100, .inl (cond (li_has ns (nI k) && (mo_day y && decide (fc (nI k).toNatClampNeg = (-1)))) (upd fc (nI k).toNatClampNeg y) fc)))] : va_W) = [(mm, .inr (5, [.int 0, .ref u1, .int (nI n), .int pv, .int wr, .ref u5, .ref u6, .ref u7, .ref u8, .ref u9, .ref u10, .ref u11, .int (nI cn), .ref u13, .int (nI hc), .ref u15, .ref u16, .ref u17, .ref u18, .ref u19, .ref u20, .int (nI ns), .ref u22, .int (nI pz)])), (u16, .inl (cI, 100, .inl fe)), (u20, .inl (cI, 100, .inl (upd fc k y)))] := by rw [z9] <;> first | rfl | (rw [nI_clamp (by omega)]; rfl)
        exact W.iret (v := 1) hx hb hr (fun t ht hW => ⟨⟨_, (), rfl, q9, by rw [ht, e9]; exact hP, va_K.moved hW.alike hK, by rw [e9]; exact hD⟩, hS.F ht⟩) hS.2.2 d_Mo_came_40
      · refine lv_iconst (v := 0) hx hb d_Mo_came_30 (by decide) ?_
        rw [hQ]
        have z9 : (li_has ns (nI k) && (mo_day y && decide (fc (nI k).toNatClampNeg = (-1)))) = false := by rw [c_10, c_17, nI_clamp (by omega), decide_eq_false c_27]; rfl
        have q9 : (0 : Int32) = bo_I (li_has ns (nI k) && (mo_day y && decide (fc (nI k).toNatClampNeg = (-1)))) := by rw [z9]; rfl
        have e9 : ([(mm, .inr (5, [.int 0, .ref u1, .int (nI n), .int pv, .int wr, .ref u5, .ref u6, .ref u7, .ref u8, .ref u9, .ref u10, .ref u11, .int (nI cn), .ref u13, .int (nI hc), .ref u15, .ref u16, .ref u17, .ref u18, .ref u19, .ref u20, .int (nI ns), .ref u22, .int (nI pz)])), (u16, .inl (cI, 100, .inl fe)), (u20, .inl (cI, 100, .inl (cond (li_has ns (nI k) && (mo_day y && decide (fc (nI k).toNatClampNeg = (-1)))) (upd fc (nI k).toNatClampNeg y) fc)))] : va_W) = [(mm, .inr (5, [.int 0, .ref u1, .int (nI n), .int pv, .int wr, .ref u5, .ref u6, .ref u7, .ref u8, .ref u9, .ref u10, .ref u11, .int (nI cn), .ref u13, .int (nI hc), .ref u15, .ref u16, .ref u17, .ref u18, .ref u19, .ref u20, .int (nI ns), .ref u22, .int (nI pz)])), (u16, .inl (cI, 100, .inl fe)), (u20, .inl (cI, 100, .inl fc))] := by rw [z9] <;> first | rfl | (rw [nI_clamp (by omega)]; rfl)
        exact W.iret (v := 0) hx hb hr (fun t ht hW => ⟨⟨_, (), rfl, q9, by rw [ht, e9]; exact hP, va_K.moved hW.alike hK, by rw [e9]; exact hD⟩, hS.F ht⟩) hS.2.2 d_Mo_came_31

set_option maxHeartbeats 4000000 in
set_option maxRecDepth 100000 in
theorem c_Mo_at (l : Launch) (dC : Nat → ClassId) (dI : Nat → Nat → Nat) (sz : Nat) (mm : Nat) (u1 : Nat) (u5 : Nat) (u6 : Nat) (u7 : Nat) (u8 : Nat) (u9 : Nat) (u10 : Nat) (u11 : Nat) (u13 : Nat) (u15 : Nat) (u16 : Nat) (u17 : Nat) (u18 : Nat) (u19 : Nat) (u20 : Nat) (u22 : Nat) (th : Int32) (n : Nat) (pv : Int32) (wr : Int32) (cn : Nat) (hc : Nat) (ns : Nat) (pz : Nat) (cB : ClassId) (kp : Nat → Int32) (x : Int32) (hz : pz ≤ 120) : Met l y_Mo_at w_Mo_at ({ frames := 0, cells := 0, slots := 0, locals := 0 }) (va_Pc [.ref mm, .int x] (wy_M (dC, dI) ga_cl [(mm, .inr (5, [.int th, .ref u1, .int (nI n), .int pv, .int wr, .ref u5, .ref u6, .ref u7, .ref u8, .ref u9, .ref u10, .ref u11, .int (nI cn), .ref u13, .int (nI hc), .ref u15, .ref u16, .ref u17, .ref u18, .ref u19, .ref u20, .int (nI ns), .ref u22, .int (nI pz)])), (u22, .inl (cB, 120, .inl kp))] [(cB, .byte)] sz)) (va_Qi (fun (r : Int32) (_ : Unit) => r = cond (li_has pz x) (kp x.toNatClampNeg &&& 255) (-1)) (fun _ => wy_N (dC, dI) ga_cl [(cB, .byte)] (va_A [(mm, .inr (5, [.int th, .ref u1, .int (nI n), .int pv, .int wr, .ref u5, .ref u6, .ref u7, .ref u8, .ref u9, .ref u10, .ref u11, .int (nI cn), .ref u13, .int (nI hc), .ref u15, .ref u16, .ref u17, .ref u18, .ref u19, .ref u20, .int (nI ns), .ref u22, .int (nI pz)])), (u22, .inl (cB, 120, .inl kp))] sz) [(mm, .inr (5, [.int 0, .ref u1, .int (nI n), .int pv, .int wr, .ref u5, .ref u6, .ref u7, .ref u8, .ref u9, .ref u10, .ref u11, .int (nI cn), .ref u13, .int (nI hc), .ref u15, .ref u16, .ref u17, .ref u18, .ref u19, .ref u20, .int (nI ns), .ref u22, .int (nI pz)])), (u22, .inl (cB, 120, .inl kp))]) (va_A [(mm, .inr (5, [.int th, .ref u1, .int (nI n), .int pv, .int wr, .ref u5, .ref u6, .ref u7, .ref u8, .ref u9, .ref u10, .ref u11, .int (nI cn), .ref u13, .int (nI hc), .ref u15, .ref u16, .ref u17, .ref u18, .ref u19, .ref u20, .int (nI ns), .ref u22, .int (nI pz)])), (u22, .inl (cB, 120, .inl kp))] sz)) 0 0 (va_A [(mm, .inr (5, [.int th, .ref u1, .int (nI n), .int pv, .int wr, .ref u5, .ref u6, .ref u7, .ref u8, .ref u9, .ref u10, .ref u11, .int (nI cn), .ref u13, .int (nI hc), .ref u15, .ref u16, .ref u17, .ref u18, .ref u19, .ref u20, .int (nI ns), .ref u22, .int (nI pz)])), (u22, .inl (cB, 120, .inl kp))] sz) := by
  refine Met.ofW (cc := b_Mo_at) (maxL := 2) (ret := (some .int)) (by decide) rfl ?_
  intro p e s m args below meth c s₁ B hml hv
  obtain ⟨rfl, hsz, hP, hK, hN, hD0⟩ := hv
  have hx := B.exec
  have hb := B.bytes
  have hr := B.returns
  have hts : ∀ w ∈ ga_tbl, w.before _ s = true := fun w h => atoms_spec (ws := w_Mo_at) B.pre w (List.mem_cons_of_mem _ h)
  have hown : s.vm.findClass "PatternTextModel" = some m.cls := findClass_of_methodNamed B.named
  have hlocks := B.notSynchronized
  subst hsz
  have hD := hD0.self (sz := s.heap.size)
  generalize hAe : va_A [(mm, .inr (5, [.int th, .ref u1, .int (nI n), .int pv, .int wr, .ref u5, .ref u6, .ref u7, .ref u8, .ref u9, .ref u10, .ref u11, .int (nI cn), .ref u13, .int (nI hc), .ref u15, .ref u16, .ref u17, .ref u18, .ref u19, .ref u20, .int (nI ns), .ref u22, .int (nI pz)])), (u22, .inl (cB, 120, .inl kp))] s.heap.size = A at hD ⊢
  have hA : ∀ q : Nat, s.heap.size ≤ q → A q := fun q h => by rw [← hAe]; exact Or.inr h
  have hS : va_S A s.heap s.heap [] := va_S.rf
  have hl := lv_entry ([.ref mm, .int x]) (n := 2) (Nat.le_of_ble_eq_true rfl)
  rw [lg_entry_eq]
  generalize (lg_sl ([.ref mm, .int x]) ++ List.replicate (2 - (lg_sl ([.ref mm, .int x])).length) Slot.unset).toArray = ls at hl ⊢
  have hl : lv_has ls 2 [(0, .ref mm), (1, .int x)] := hl
  obtain ⟨Q0, hQ⟩ : ∃ Q0 : State → Prop, Q0 = MQ below (va_Qi (fun (r : Int32) (_ : Unit) => r = cond (li_has pz x) (kp x.toNatClampNeg &&& 255) (-1)) (fun _ => wy_N (dC, dI) ga_cl [(cB, .byte)] A [(mm, .inr (5, [.int 0, .ref u1, .int (nI n), .int pv, .int wr, .ref u5, .ref u6, .ref u7, .ref u8, .ref u9, .ref u10, .ref u11, .int (nI cn), .ref u13, .int (nI hc), .ref u15, .ref u16, .ref u17, .ref u18, .ref u19, .ref u20, .int (nI ns), .ref u22, .int (nI pz)])), (u22, .inl (cB, 120, .inl kp))]) A) ([.ref mm, .int x] : List Value).toArray s 0 0 A := ⟨_, rfl⟩
  show W p l e ({ frames := 0, cells := 0, slots := 0, locals := 0 }) s m ([.ref mm, .int x] : List Value).toArray below meth c s.heap [] 0 0 (MQ below (va_Qi (fun (r : Int32) (_ : Unit) => r = cond (li_has pz x) (kp x.toNatClampNeg &&& 255) (-1)) (fun _ => wy_N (dC, dI) ga_cl [(cB, .byte)] A [(mm, .inr (5, [.int 0, .ref u1, .int (nI n), .int pv, .int wr, .ref u5, .ref u6, .ref u7, .ref u8, .ref u9, .ref u10, .ref u11, .int (nI cn), .ref u13, .int (nI hc), .ref u15, .ref u16, .ref u17, .ref u18, .ref u19, .ref u20, .int (nI ns), .ref u22, .int (nI pz)])), (u22, .inl (cB, 120, .inl kp))]) A) ([.ref mm, .int x] : List Value).toArray s 0 0 A) (F0 m 0 ls [])
  rw [← hQ]
  refine lv_aload_n hx hb d_Mo_at_0 rfl (lv_at hl 0 rfl) ?_
  refine lv_iconst (v := 0) hx hb d_Mo_at_1 (by decide) ?_
  refine va_put (D := (dC, dI)) (ci := 5) (v := .int 0) (ty := .int) (C := "PatternTextModel") (T := F_Mo) (N := 24) hx hb hts iw_Mo t_Mo t_Mo_ok n_Mo hown hK hP hD hS 0 rfl rfl 0 (by decide) (hts _ kw_560) (fun _ h9 => h9) rfl (by decide +kernel) rfl rfl (Nat.le_of_ble_eq_true rfl) d_Mo_at_2 (fun H locs hP hD hS => ?_)
  have hP : va_P (dC, dI) ga_cl [(mm, .inr (5, [.int 0, .ref u1, .int (nI n), .int pv, .int wr, .ref u5, .ref u6, .ref u7, .ref u8, .ref u9, .ref u10, .ref u11, .int (nI cn), .ref u13, .int (nI hc), .ref u15, .ref u16, .ref u17, .ref u18, .ref u19, .ref u20, .int (nI ns), .ref u22, .int (nI pz)])), (u22, .inl (cB, 120, .inl kp))] H := hP
  have hD : va_D A [(mm, .inr (5, [.int 0, .ref u1, .int (nI n), .int pv, .int wr, .ref u5, .ref u6, .ref u7, .ref u8, .ref u9, .ref u10, .ref u11, .int (nI cn), .ref u13, .int (nI hc), .ref u15, .ref u16, .ref u17, .ref u18, .ref u19, .ref u20, .int (nI ns), .ref u22, .int (nI pz)])), (u22, .inl (cB, 120, .inl kp))] := hD
  refine lv_iload_n hx hb d_Mo_at_5 rfl (lv_at hl 1 rfl) ?_
  refine lv_if_lt (tgt := 17) hx hb d_Mo_at_6 (by decide) (fun c_6 => ?_) (fun c_6 => ?_)
  · refine lv_iconst (v := -1) hx hb d_Mo_at_17 (by decide) ?_
    refine lv_goto (tgt := 31) hx hb d_Mo_at_18 (by decide) ?_
    rw [hQ]
    have z9 : li_has pz x = false := by simp only [li_has, Bool.and_eq_false_iff, decide_eq_false_iff_not]; first | exact Or.inl (Int32.not_le.mpr c_6) | exact Or.inr c_14
    have q9 : ((-1) : Int32) = cond (li_has pz x) (kp x.toNatClampNeg &&& 255) (-1) := by rw [z9]; rfl
    have e9 : ([(mm, .inr (5, [.int 0, .ref u1, .int (nI n), .int pv, .int wr, .ref u5, .ref u6, .ref u7, .ref u8, .ref u9, .ref u10, .ref u11, .int (nI cn), .ref u13, .int (nI hc), .ref u15, .ref u16, .ref u17, .ref u18, .ref u19, .ref u20, .int (nI ns), .ref u22, .int (nI pz)])), (u22, .inl (cB, 120, .inl kp))] : va_W) = [(mm, .inr (5, [.int 0, .ref u1, .int (nI n), .int pv, .int wr, .ref u5, .ref u6, .ref u7, .ref u8, .ref u9, .ref u10, .ref u11, .int (nI cn), .ref u13, .int (nI hc), .ref u15, .ref u16, .ref u17, .ref u18, .ref u19, .ref u20, .int (nI ns), .ref u22, .int (nI pz)])), (u22, .inl (cB, 120, .inl kp))] := by rfl
    exact W.iret (v := (-1)) hx hb hr (fun t ht hW => ⟨⟨_, (), rfl, q9, by rw [ht, e9]; exact hP, va_K.moved hW.alike hK, by rw [e9]; exact hD⟩, hS.F ht⟩) hS.2.2 d_Mo_at_31
  · refine lv_iload_n hx hb d_Mo_at_9 rfl (lv_at hl 1 rfl) ?_
    refine lv_aload_n hx hb d_Mo_at_10 rfl (lv_at hl 0 rfl) ?_
    refine va_get (D := (dC, dI)) (ci := 5) (v := .int (nI pz)) (C := "PatternTextModel") (T := F_Mo) (N := 24) hx hb hts iw_Mo hown hK hP 0 rfl rfl 23 (by decide) (hts _ kw_583) (fun _ h9 => h9) rfl d_Mo_at_11 ?_
    refine lv_icmp_lt (tgt := 21) hx hb d_Mo_at_14 (by decide) (fun c_14 => ?_) (fun c_14 => ?_)
    · have hh : li_has pz x = true := by simp only [li_has, Bool.and_eq_true, decide_eq_true_eq]; exact ⟨Int32.not_lt.mp c_6, c_14⟩
      obtain ⟨k, hk, rfl⟩ := li_has_of (by omega) hh
      refine lv_aload_n hx hb d_Mo_at_21 rfl (lv_at hl 0 rfl) ?_
      refine va_get (D := (dC, dI)) (ci := 5) (v := .ref u22) (C := "PatternTextModel") (T := F_Mo) (N := 24) hx hb hts iw_Mo hown hK hP 0 rfl rfl 22 (by decide) (hts _ kw_582) (fun _ h9 => h9) rfl d_Mo_at_22 ?_
      refine lv_iload_n hx hb d_Mo_at_25 rfl (lv_at hl 1 rfl) ?_
      refine wy_bald hx hb hK hP 1 0 k rfl rfl (by omega) (by omega) d_Mo_at_26 ?_
      refine lv_sipush (v := 255) hx hb d_Mo_at_27 (by decide) ?_
      refine lv_iand hx hb d_Mo_at_30 ?_
      rw [hQ]
      have q9 : ((kp k) &&& 255 : Int32) = cond (li_has pz (nI k)) (kp (nI k).toNatClampNeg &&& 255) (-1) := by rw [hh, nI_clamp (by omega)]; rfl
      have e9 : ([(mm, .inr (5, [.int 0, .ref u1, .int (nI n), .int pv, .int wr, .ref u5, .ref u6, .ref u7, .ref u8, .ref u9, .ref u10, .ref u11, .int (nI cn), .ref u13, .int (nI hc), .ref u15, .ref u16, .ref u17, .ref u18, .ref u19, .ref u20, .int (nI ns), .ref u22, .int (nI pz)])), (u22, .inl (cB, 120, .inl kp))] : va_W) = [(mm, .inr (5, [.int 0, .ref u1, .int (nI n), .int pv, .int wr, .ref u5, .ref u6, .ref u7, .ref u8, .ref u9, .ref u10, .ref u11, .int (nI cn), .ref u13, .int (nI hc), .ref u15, .ref u16, .ref u17, .ref u18, .ref u19, .ref u20, .int (nI ns), .ref u22, .int (nI pz)])), (u22, .inl (cB, 120, .inl kp))] := by rfl
      exact W.iret (v := (kp k) &&& 255) hx hb hr (fun t ht hW => ⟨⟨_, (), rfl, q9, by rw [ht, e9]; exact hP, va_K.moved hW.alike hK, by rw [e9]; exact hD⟩, hS.F ht⟩) hS.2.2 d_Mo_at_31
    · refine lv_iconst (v := -1) hx hb d_Mo_at_17 (by decide) ?_
      refine lv_goto (tgt := 31) hx hb d_Mo_at_18 (by decide) ?_
      rw [hQ]
      have z9 : li_has pz x = false := by simp only [li_has, Bool.and_eq_false_iff, decide_eq_false_iff_not]; first | exact Or.inl (Int32.not_le.mpr c_6) | exact Or.inr c_14
      have q9 : ((-1) : Int32) = cond (li_has pz x) (kp x.toNatClampNeg &&& 255) (-1) := by rw [z9]; rfl
      have e9 : ([(mm, .inr (5, [.int 0, .ref u1, .int (nI n), .int pv, .int wr, .ref u5, .ref u6, .ref u7, .ref u8, .ref u9, .ref u10, .ref u11, .int (nI cn), .ref u13, .int (nI hc), .ref u15, .ref u16, .ref u17, .ref u18, .ref u19, .ref u20, .int (nI ns), .ref u22, .int (nI pz)])), (u22, .inl (cB, 120, .inl kp))] : va_W) = [(mm, .inr (5, [.int 0, .ref u1, .int (nI n), .int pv, .int wr, .ref u5, .ref u6, .ref u7, .ref u8, .ref u9, .ref u10, .ref u11, .int (nI cn), .ref u13, .int (nI hc), .ref u15, .ref u16, .ref u17, .ref u18, .ref u19, .ref u20, .int (nI ns), .ref u22, .int (nI pz)])), (u22, .inl (cB, 120, .inl kp))] := by rfl
      exact W.iret (v := (-1)) hx hb hr (fun t ht hW => ⟨⟨_, (), rfl, q9, by rw [ht, e9]; exact hP, va_K.moved hW.alike hK, by rw [e9]; exact hD⟩, hS.F ht⟩) hS.2.2 d_Mo_at_31

set_option maxHeartbeats 4000000 in
set_option maxRecDepth 100000 in
theorem c_Mo_told (l : Launch) (dC : Nat → ClassId) (dI : Nat → Nat → Nat) (mm : Nat) (u1 : Nat) (u5 : Nat) (u6 : Nat) (u7 : Nat) (u8 : Nat) (u9 : Nat) (u10 : Nat) (u11 : Nat) (u13 : Nat) (u15 : Nat) (u16 : Nat) (u17 : Nat) (u18 : Nat) (u19 : Nat) (u20 : Nat) (u22 : Nat) (th : Int32) (n : Nat) (pv : Int32) (wr : Int32) (cn : Nat) (hc : Nat) (ns : Nat) (pz : Nat) (cI : ClassId) (cZ : ClassId) (kv : Nat → Int32) (kr : Nat → Int32) (pq : Nat) (k : Nat) (vo : Nat) (re : Bool) (hp : pq < 11) (hk1 : 1 ≤ k) (hk : k < 2 ^ 30) (hkv : kv pq = nI vo) (hkr : kr pq = bo_I re) (hvo : vo ≤ 99) (hre : re = true → 0 < vo) : Met l y_Mo_told w_Mo_told ({ frames := 0, cells := 0, slots := 0, locals := 0 }) (va_Pc [.ref mm, .int (nI pq), .int (nI k)] (wy_R (dC, dI) ga_cl [(mm, .inr (5, [.int th, .ref u1, .int (nI n), .int pv, .int wr, .ref u5, .ref u6, .ref u7, .ref u8, .ref u9, .ref u10, .ref u11, .int (nI cn), .ref u13, .int (nI hc), .ref u15, .ref u16, .ref u17, .ref u18, .ref u19, .ref u20, .int (nI ns), .ref u22, .int (nI pz)])), (u8, .inl (cI, 11, .inl kv)), (u9, .inl (cZ, 11, .inl kr))] [(cI, .int), (cZ, .boolean)])) (vp_Si (fun r => r = nI (pt_told re vo k))) 0 0 (fun _ => False) := by
  refine Met.ofW (cc := b_Mo_told) (maxL := 3) (ret := (some .int)) (by decide) rfl ?_
  intro p e s m args below meth c s₁ B hml hv
  obtain ⟨rfl, hP, hK, hN⟩ := hv
  have hx := B.exec
  have hb := B.bytes
  have hr := B.returns
  have hts : ∀ w ∈ ga_tbl, w.before _ s = true := fun w h => atoms_spec (ws := w_Mo_told) B.pre w (List.mem_cons_of_mem _ h)
  have hown : s.vm.findClass "PatternTextModel" = some m.cls := findClass_of_methodNamed B.named
  have hlocks := B.notSynchronized
  have hl := lv_entry ([.ref mm, .int (nI pq), .int (nI k)]) (n := 3) (Nat.le_of_ble_eq_true rfl)
  rw [lg_entry_eq]
  generalize (lg_sl ([.ref mm, .int (nI pq), .int (nI k)]) ++ List.replicate (3 - (lg_sl ([.ref mm, .int (nI pq), .int (nI k)])).length) Slot.unset).toArray = ls at hl ⊢
  have hl : lv_has ls 3 [(0, .ref mm), (1, .int (nI pq)), (2, .int (nI k))] := hl
  refine lv_aload_n hx hb d_Mo_told_0 rfl (lv_at hl 0 rfl) ?_
  refine va_get (D := (dC, dI)) (ci := 5) (v := .ref u9) (C := "PatternTextModel") (T := F_Mo) (N := 24) hx hb hts iw_Mo hown hK hP 0 rfl rfl 9 (by decide) (hts _ kw_569) (fun _ h9 => h9) rfl d_Mo_told_1 ?_
  refine lv_iload_n hx hb d_Mo_told_4 rfl (lv_at hl 1 rfl) ?_
  refine wy_zald hx hb hK hP 2 1 pq rfl rfl (by omega) (by omega) d_Mo_told_5 ?_
  refine wy_cvi (y := bo_I re) (hkr) ?_
  refine wy_ifeqB (tgt := 24) hx hb d_Mo_told_6 (by decide) (fun c_6 => ?_) (fun c_6 => ?_)
  · refine lv_iload_n hx hb d_Mo_told_24 rfl (lv_at hl 2 rfl) ?_
    have z9 : pt_told re vo k = k := by unfold pt_told; exact if_neg (fun z => by rw [z.1] at c_6; cases c_6)
    have q9 : (nI k : Int32) = nI (pt_told re vo k) := by rw [z9]
    exact W.iret (v := nI k) hx hb hr (fun t ht _ => ⟨_, rfl, q9, ht⟩) (fun _ h9 => by cases h9) d_Mo_told_25
  · refine lv_iload_n hx hb d_Mo_told_9 rfl (lv_at hl 2 rfl) ?_
    refine lv_iconst (v := 1) hx hb d_Mo_told_10 (by decide) ?_
    refine wy_isub hx hb k 1 (by omega) d_Mo_told_11 ?_
    refine lv_aload_n hx hb d_Mo_told_12 rfl (lv_at hl 0 rfl) ?_
    refine va_get (D := (dC, dI)) (ci := 5) (v := .ref u8) (C := "PatternTextModel") (T := F_Mo) (N := 24) hx hb hts iw_Mo hown hK hP 0 rfl rfl 8 (by decide) (hts _ kw_568) (fun _ h9 => h9) rfl d_Mo_told_13 ?_
    refine lv_iload_n hx hb d_Mo_told_16 rfl (lv_at hl 1 rfl) ?_
    refine wy_iald hx hb hK hP 1 0 pq rfl rfl (by omega) (by omega) d_Mo_told_17 ?_
    refine wy_cvi (y := nI vo) (hkv) ?_
    have h0 := hre c_6
    refine wy_irem hx hb (k - 1) vo (by omega) (by omega) (by omega) d_Mo_told_18 ?_
    refine lv_iconst (v := 1) hx hb d_Mo_told_19 (by decide) ?_
    refine wy_iadd hx hb ((k - 1) % vo) 1 d_Mo_told_20 ?_
    refine lv_goto (tgt := 25) hx hb d_Mo_told_21 (by decide) ?_
    have z9 : pt_told re vo k = ((k - 1) % vo) + 1 := by unfold pt_told; exact if_pos ⟨c_6, h0⟩
    have q9 : (nI (((k - 1) % vo) + 1) : Int32) = nI (pt_told re vo k) := by rw [z9]
    exact W.iret (v := nI (((k - 1) % vo) + 1)) hx hb hr (fun t ht _ => ⟨_, rfl, q9, ht⟩) (fun _ h9 => by cases h9) d_Mo_told_25

set_option maxHeartbeats 4000000 in
set_option maxRecDepth 100000 in
theorem c_Mo_issue (l : Launch) (dC : Nat → ClassId) (dI : Nat → Nat → Nat) (sz : Nat) (mm : Nat) (u1 : Nat) (u5 : Nat) (u6 : Nat) (u7 : Nat) (u8 : Nat) (u9 : Nat) (u10 : Nat) (u11 : Nat) (u13 : Nat) (u15 : Nat) (u16 : Nat) (u17 : Nat) (u18 : Nat) (u19 : Nat) (u20 : Nat) (u22 : Nat) (th : Int32) (n : Nat) (pv : Int32) (wr : Int32) (cn : Nat) (hc : Nat) (ns : Nat) (pz : Nat) (cI : ClassId) (cZ : ClassId) (kv : Nat → Int32) (kr : Nat → Int32) (fn : Nat → Int32) (ft : Nat → Int32) (fp : Nat → Int32) (fc : Nat → Int32) (pn : Nat → Nat) (nn : Nat → Nat) (vn : Nat → Nat) (rn : Nat → Bool) (tn : Nat → Bool) (x : Int32) (y : Int32) (hn : ns ≤ 100) (hc0 : cn ≤ 10) (hfp : ∀ k, k < ns → fp k = nI (pn k) ∧ pn k < cn) (hfn : ∀ k, k < ns → fn k = nI (nn k) ∧ 1 ≤ nn k ∧ nn k ≤ 100000) (hkv : ∀ q, q < cn → kv q = nI (vn q) ∧ vn q ≤ 99) (hkr : ∀ q, q < cn → kr q = bo_I (rn q) ∧ (rn q = true → 0 < vn q)) (hft : ∀ k, k < ns → ft k = bo_I (tn k)) : Met l y_Mo_issue w_Mo_issue ({ frames := 1, cells := 0, slots := 0, locals := 22 }) (va_Pc [.ref mm, .int x, .int y] (wy_M (dC, dI) ga_cl [(mm, .inr (5, [.int th, .ref u1, .int (nI n), .int pv, .int wr, .ref u5, .ref u6, .ref u7, .ref u8, .ref u9, .ref u10, .ref u11, .int (nI cn), .ref u13, .int (nI hc), .ref u15, .ref u16, .ref u17, .ref u18, .ref u19, .ref u20, .int (nI ns), .ref u22, .int (nI pz)])), (u8, .inl (cI, 11, .inl kv)), (u9, .inl (cZ, 11, .inl kr)), (u17, .inl (cI, 100, .inl fn)), (u18, .inl (cZ, 100, .inl ft)), (u19, .inl (cI, 100, .inl fp)), (u20, .inl (cI, 100, .inl fc))] [(cI, .int), (cZ, .boolean)] sz)) (va_Qi (fun (r : Int32) (_ : Unit) => r = mo_iss ns fc pn nn vn rn tn x y) (fun _ => wy_N (dC, dI) ga_cl [(cI, .int), (cZ, .boolean)] (va_A [(mm, .inr (5, [.int th, .ref u1, .int (nI n), .int pv, .int wr, .ref u5, .ref u6, .ref u7, .ref u8, .ref u9, .ref u10, .ref u11, .int (nI cn), .ref u13, .int (nI hc), .ref u15, .ref u16, .ref u17, .ref u18, .ref u19, .ref u20, .int (nI ns), .ref u22, .int (nI pz)])), (u8, .inl (cI, 11, .inl kv)), (u9, .inl (cZ, 11, .inl kr)), (u17, .inl (cI, 100, .inl fn)), (u18, .inl (cZ, 100, .inl ft)), (u19, .inl (cI, 100, .inl fp)), (u20, .inl (cI, 100, .inl fc))] sz) [(mm, .inr (5, [.int 0, .ref u1, .int (nI n), .int pv, .int wr, .ref u5, .ref u6, .ref u7, .ref u8, .ref u9, .ref u10, .ref u11, .int (nI cn), .ref u13, .int (nI hc), .ref u15, .ref u16, .ref u17, .ref u18, .ref u19, .ref u20, .int (nI ns), .ref u22, .int (nI pz)])), (u8, .inl (cI, 11, .inl kv)), (u9, .inl (cZ, 11, .inl kr)), (u17, .inl (cI, 100, .inl fn)), (u18, .inl (cZ, 100, .inl ft)), (u19, .inl (cI, 100, .inl fp)), (u20, .inl (cI, 100, .inl fc))]) (va_A [(mm, .inr (5, [.int th, .ref u1, .int (nI n), .int pv, .int wr, .ref u5, .ref u6, .ref u7, .ref u8, .ref u9, .ref u10, .ref u11, .int (nI cn), .ref u13, .int (nI hc), .ref u15, .ref u16, .ref u17, .ref u18, .ref u19, .ref u20, .int (nI ns), .ref u22, .int (nI pz)])), (u8, .inl (cI, 11, .inl kv)), (u9, .inl (cZ, 11, .inl kr)), (u17, .inl (cI, 100, .inl fn)), (u18, .inl (cZ, 100, .inl ft)), (u19, .inl (cI, 100, .inl fp)), (u20, .inl (cI, 100, .inl fc))] sz)) 0 0 (va_A [(mm, .inr (5, [.int th, .ref u1, .int (nI n), .int pv, .int wr, .ref u5, .ref u6, .ref u7, .ref u8, .ref u9, .ref u10, .ref u11, .int (nI cn), .ref u13, .int (nI hc), .ref u15, .ref u16, .ref u17, .ref u18, .ref u19, .ref u20, .int (nI ns), .ref u22, .int (nI pz)])), (u8, .inl (cI, 11, .inl kv)), (u9, .inl (cZ, 11, .inl kr)), (u17, .inl (cI, 100, .inl fn)), (u18, .inl (cZ, 100, .inl ft)), (u19, .inl (cI, 100, .inl fp)), (u20, .inl (cI, 100, .inl fc))] sz) := by
  refine Met.ofW (cc := b_Mo_issue) (maxL := 4) (ret := (some .int)) (by decide) rfl ?_
  intro p e s m args below meth c s₁ B hml hv
  obtain ⟨rfl, hsz, hP, hK, hN, hD0⟩ := hv
  have hx := B.exec
  have hb := B.bytes
  have hr := B.returns
  have hts : ∀ w ∈ ga_tbl, w.before _ s = true := fun w h => atoms_spec (ws := w_Mo_issue) B.pre w (List.mem_cons_of_mem _ h)
  have hown : s.vm.findClass "PatternTextModel" = some m.cls := findClass_of_methodNamed B.named
  have hlocks := B.notSynchronized
  subst hsz
  have hD := hD0.self (sz := s.heap.size)
  generalize hAe : va_A [(mm, .inr (5, [.int th, .ref u1, .int (nI n), .int pv, .int wr, .ref u5, .ref u6, .ref u7, .ref u8, .ref u9, .ref u10, .ref u11, .int (nI cn), .ref u13, .int (nI hc), .ref u15, .ref u16, .ref u17, .ref u18, .ref u19, .ref u20, .int (nI ns), .ref u22, .int (nI pz)])), (u8, .inl (cI, 11, .inl kv)), (u9, .inl (cZ, 11, .inl kr)), (u17, .inl (cI, 100, .inl fn)), (u18, .inl (cZ, 100, .inl ft)), (u19, .inl (cI, 100, .inl fp)), (u20, .inl (cI, 100, .inl fc))] s.heap.size = A at hD ⊢
  have hA : ∀ q : Nat, s.heap.size ≤ q → A q := fun q h => by rw [← hAe]; exact Or.inr h
  have hS : va_S A s.heap s.heap [] := va_S.rf
  have hl := lv_entry ([.ref mm, .int x, .int y]) (n := 4) (Nat.le_of_ble_eq_true rfl)
  rw [lg_entry_eq]
  generalize (lg_sl ([.ref mm, .int x, .int y]) ++ List.replicate (4 - (lg_sl ([.ref mm, .int x, .int y])).length) Slot.unset).toArray = ls at hl ⊢
  have hl : lv_has ls 4 [(0, .ref mm), (1, .int x), (2, .int y)] := hl
  obtain ⟨Q0, hQ⟩ : ∃ Q0 : State → Prop, Q0 = MQ below (va_Qi (fun (r : Int32) (_ : Unit) => r = mo_iss ns fc pn nn vn rn tn x y) (fun _ => wy_N (dC, dI) ga_cl [(cI, .int), (cZ, .boolean)] A [(mm, .inr (5, [.int 0, .ref u1, .int (nI n), .int pv, .int wr, .ref u5, .ref u6, .ref u7, .ref u8, .ref u9, .ref u10, .ref u11, .int (nI cn), .ref u13, .int (nI hc), .ref u15, .ref u16, .ref u17, .ref u18, .ref u19, .ref u20, .int (nI ns), .ref u22, .int (nI pz)])), (u8, .inl (cI, 11, .inl kv)), (u9, .inl (cZ, 11, .inl kr)), (u17, .inl (cI, 100, .inl fn)), (u18, .inl (cZ, 100, .inl ft)), (u19, .inl (cI, 100, .inl fp)), (u20, .inl (cI, 100, .inl fc))]) A) ([.ref mm, .int x, .int y] : List Value).toArray s 0 0 A := ⟨_, rfl⟩
  show W p l e ({ frames := 1, cells := 0, slots := 0, locals := 22 }) s m ([.ref mm, .int x, .int y] : List Value).toArray below meth c s.heap [] 0 0 (MQ below (va_Qi (fun (r : Int32) (_ : Unit) => r = mo_iss ns fc pn nn vn rn tn x y) (fun _ => wy_N (dC, dI) ga_cl [(cI, .int), (cZ, .boolean)] A [(mm, .inr (5, [.int 0, .ref u1, .int (nI n), .int pv, .int wr, .ref u5, .ref u6, .ref u7, .ref u8, .ref u9, .ref u10, .ref u11, .int (nI cn), .ref u13, .int (nI hc), .ref u15, .ref u16, .ref u17, .ref u18, .ref u19, .ref u20, .int (nI ns), .ref u22, .int (nI pz)])), (u8, .inl (cI, 11, .inl kv)), (u9, .inl (cZ, 11, .inl kr)), (u17, .inl (cI, 100, .inl fn)), (u18, .inl (cZ, 100, .inl ft)), (u19, .inl (cI, 100, .inl fp)), (u20, .inl (cI, 100, .inl fc))]) A) ([.ref mm, .int x, .int y] : List Value).toArray s 0 0 A) (F0 m 0 ls [])
  rw [← hQ]
  refine lv_aload_n hx hb d_Mo_issue_0 rfl (lv_at hl 0 rfl) ?_
  refine lv_iconst (v := 0) hx hb d_Mo_issue_1 (by decide) ?_
  refine va_put (D := (dC, dI)) (ci := 5) (v := .int 0) (ty := .int) (C := "PatternTextModel") (T := F_Mo) (N := 24) hx hb hts iw_Mo t_Mo t_Mo_ok n_Mo hown hK hP hD hS 0 rfl rfl 0 (by decide) (hts _ kw_560) (fun _ h9 => h9) rfl (by decide +kernel) rfl rfl (Nat.le_of_ble_eq_true rfl) d_Mo_issue_2 (fun H locs hP hD hS => ?_)
  have hP : va_P (dC, dI) ga_cl [(mm, .inr (5, [.int 0, .ref u1, .int (nI n), .int pv, .int wr, .ref u5, .ref u6, .ref u7, .ref u8, .ref u9, .ref u10, .ref u11, .int (nI cn), .ref u13, .int (nI hc), .ref u15, .ref u16, .ref u17, .ref u18, .ref u19, .ref u20, .int (nI ns), .ref u22, .int (nI pz)])), (u8, .inl (cI, 11, .inl kv)), (u9, .inl (cZ, 11, .inl kr)), (u17, .inl (cI, 100, .inl fn)), (u18, .inl (cZ, 100, .inl ft)), (u19, .inl (cI, 100, .inl fp)), (u20, .inl (cI, 100, .inl fc))] H := hP
  have hD : va_D A [(mm, .inr (5, [.int 0, .ref u1, .int (nI n), .int pv, .int wr, .ref u5, .ref u6, .ref u7, .ref u8, .ref u9, .ref u10, .ref u11, .int (nI cn), .ref u13, .int (nI hc), .ref u15, .ref u16, .ref u17, .ref u18, .ref u19, .ref u20, .int (nI ns), .ref u22, .int (nI pz)])), (u8, .inl (cI, 11, .inl kv)), (u9, .inl (cZ, 11, .inl kr)), (u17, .inl (cI, 100, .inl fn)), (u18, .inl (cZ, 100, .inl ft)), (u19, .inl (cI, 100, .inl fp)), (u20, .inl (cI, 100, .inl fc))] := hD
  refine lv_aload_n hx hb d_Mo_issue_5 rfl (lv_at hl 0 rfl) ?_
  refine lv_iload_n hx hb d_Mo_issue_6 rfl (lv_at hl 1 rfl) ?_
  refine vp_callSi (va_runV (As := [.int x]) (rest := []) ⟨hx, hb, hml, hown, hts⟩ (c_Mo_isIssue l dC dI mm u1 u5 u6 u7 u8 u9 u10 u11 u13 u15 u16 u17 u18 u19 u20 u22 0 n pv wr cn hc ns pz x ) (cwV 1 hts (ga_V kw_735 kw_737 kw_29 kw_38 (ga_in kw_738)) rfl rfl rfl (by decide +kernel) ⟨Nat.le_of_ble_eq_true rfl, Nat.le_of_ble_eq_true rfl⟩) (wy_preV 0 (hP.sub (ws' := [(mm, .inr (5, [.int 0, .ref u1, .int (nI n), .int pv, .int wr, .ref u5, .ref u6, .ref u7, .ref u8, .ref u9, .ref u10, .ref u11, .int (nI cn), .ref u13, .int (nI hc), .ref u15, .ref u16, .ref u17, .ref u18, .ref u19, .ref u20, .int (nI ns), .ref u22, .int (nI pz)]))]) [0] rfl) (hK.sub (tys' := []) [] rfl) hN (ci := 5) rfl rfl rfl) rfl rfl hl.1 rfl (lv_room (Nat.le_of_ble_eq_true rfl)) d_Mo_issue_7 ⟨Nat.le_of_ble_eq_true rfl, Nat.le_of_ble_eq_true rfl⟩).run (fun r_7 h_7 => ?_)
  subst h_7
  refine wy_ifneB (tgt := 15) hx hb d_Mo_issue_10 (by decide) (fun c_10 => ?_) (fun c_10 => ?_)
  · obtain ⟨k, hk, rfl⟩ := li_has_of (by omega) c_10
    have c_10 : li_has ns (nI k) = true := by rw [li_has_nI (by omega) (by omega), decide_eq_true hk]
    obtain ⟨e1, b1⟩ := hfp k hk
    obtain ⟨e2, b2, b3⟩ := hfn k hk
    obtain ⟨e3, b4⟩ := hkv (pn k) b1
    obtain ⟨e4, b5⟩ := hkr (pn k) b1
    have e5 := hft k hk
    refine lv_aload_n hx hb d_Mo_issue_15 rfl (lv_at hl 0 rfl) ?_
    refine va_get (D := (dC, dI)) (ci := 5) (v := .ref u19) (C := "PatternTextModel") (T := F_Mo) (N := 24) hx hb hts iw_Mo hown hK hP 0 rfl rfl 19 (by decide) (hts _ kw_579) (fun _ h9 => h9) rfl d_Mo_issue_16 ?_
    refine lv_iload_n hx hb d_Mo_issue_19 rfl (lv_at hl 1 rfl) ?_
    refine wy_iald hx hb hK hP 5 0 k rfl rfl (by omega) (by omega) d_Mo_issue_20 ?_
    refine wy_cvi (y := nI (pn k)) (e1) ?_
    refine lv_istore_n (lv' := [(3, .int (nI (pn k))), (0, .ref mm), (1, .int (nI k)), (2, .int y)]) hx hb d_Mo_issue_21 rfl hl (by decide) rfl (fun ls hl => ?_)
    refine lv_iload_n hx hb d_Mo_issue_22 rfl (lv_at hl 3 rfl) ?_
    rcases sw_0_5 y with c_23 | c_23 | c_23 | c_23 | c_23 | c_23 | c_23
    · refine lv_tableOut (tgt := 163) hx hb d_Mo_issue_23 c_23 (by decide) ?_
      refine lv_iconst (v := -1) hx hb d_Mo_issue_163 (by decide) ?_
      rw [hQ]
      have z9 : mo_iss ns fc pn nn vn rn tn (nI k) y = (-1) := by unfold mo_iss; rw [if_pos c_10, nI_clamp (by omega)]; rw [if_neg (sw_no c_23 0 (by decide) (by decide)), if_neg (sw_no c_23 1 (by decide) (by decide)), if_neg (sw_no c_23 2 (by decide) (by decide)), if_neg (sw_no c_23 3 (by decide) (by decide)), if_neg (sw_no c_23 4 (by decide) (by decide)), if_neg (sw_no c_23 5 (by decide) (by decide))]
      have q9 : ((-1) : Int32) = mo_iss ns fc pn nn vn rn tn (nI k) y := by rw [z9]
      have e9 : ([(mm, .inr (5, [.int 0, .ref u1, .int (nI n), .int pv, .int wr, .ref u5, .ref u6, .ref u7, .ref u8, .ref u9, .ref u10, .ref u11, .int (nI cn), .ref u13, .int (nI hc), .ref u15, .ref u16, .ref u17, .ref u18, .ref u19, .ref u20, .int (nI ns), .ref u22, .int (nI pz)])), (u8, .inl (cI, 11, .inl kv)), (u9, .inl (cZ, 11, .inl kr)), (u17, .inl (cI, 100, .inl fn)), (u18, .inl (cZ, 100, .inl ft)), (u19, .inl (cI, 100, .inl fp)), (u20, .inl (cI, 100, .inl fc))] : va_W) = [(mm, .inr (5, [.int 0, .ref u1, .int (nI n), .int pv, .int wr, .ref u5, .ref u6, .ref u7, .ref u8, .ref u9, .ref u10, .ref u11, .int (nI cn), .ref u13, .int (nI hc), .ref u15, .ref u16, .ref u17, .ref u18, .ref u19, .ref u20, .int (nI ns), .ref u22, .int (nI pz)])), (u8, .inl (cI, 11, .inl kv)), (u9, .inl (cZ, 11, .inl kr)), (u17, .inl (cI, 100, .inl fn)), (u18, .inl (cZ, 100, .inl ft)), (u19, .inl (cI, 100, .inl fp)), (u20, .inl (cI, 100, .inl fc))] := by rfl
      exact W.iret (v := (-1)) hx hb hr (fun t ht hW => ⟨⟨_, (), rfl, q9, by rw [ht, e9]; exact hP, va_K.moved hW.alike hK, by rw [e9]; exact hD⟩, hS.F ht⟩) hS.2.2 d_Mo_issue_164
    · refine lv_tableIn (tgt := 60) (off := 37) hx hb d_Mo_issue_23 (by rw [c_23]; decide) (by rw [c_23]; decide) (by rw [c_23]; rfl) (by decide) ?_
      refine lv_aload_n hx hb d_Mo_issue_60 rfl (lv_at hl 1 rfl) ?_
      refine lv_iload_n hx hb d_Mo_issue_61 rfl (lv_at hl 0 rfl) ?_
      refine lv_aload_n hx hb d_Mo_issue_62 rfl (lv_at hl 1 rfl) ?_
      refine va_get (D := (dC, dI)) (ci := 5) (v := .ref u17) (C := "PatternTextModel") (T := F_Mo) (N := 24) hx hb hts iw_Mo hown hK hP 0 rfl rfl 17 (by decide) (hts _ kw_577) (fun _ h9 => h9) rfl d_Mo_issue_63 ?_
      refine lv_iload_n hx hb d_Mo_issue_66 rfl (lv_at hl 2 rfl) ?_
      refine wy_iald hx hb hK hP 3 0 k rfl rfl (by omega) (by omega) d_Mo_issue_67 ?_
      refine wy_cvi (y := nI (nn k)) (e2) ?_
      refine vp_callSi (va_runV (As := [.int (nI (pn k)), .int (nI (nn k))]) (rest := []) ⟨hx, hb, hml, hown, hts⟩ (c_Mo_told l dC dI mm u1 u5 u6 u7 u8 u9 u10 u11 u13 u15 u16 u17 u18 u19 u20 u22 0 n pv wr cn hc ns pz cI cZ kv kr (pn k) (nn k) (vn (pn k)) (rn (pn k)) (by omega) (by omega) (by omega) (e3) (e4) (by omega) (b5)) (cwV 2 hts (ga_V kw_739 kw_741 kw_30 kw_38 (ga_in kw_742)) rfl rfl rfl (by decide +kernel) ⟨Nat.le_of_ble_eq_true rfl, Nat.le_of_ble_eq_true rfl⟩) (wy_preV 0 (hP.sub (ws' := [(mm, .inr (5, [.int 0, .ref u1, .int (nI n), .int pv, .int wr, .ref u5, .ref u6, .ref u7, .ref u8, .ref u9, .ref u10, .ref u11, .int (nI cn), .ref u13, .int (nI hc), .ref u15, .ref u16, .ref u17, .ref u18, .ref u19, .ref u20, .int (nI ns), .ref u22, .int (nI pz)])), (u8, .inl (cI, 11, .inl kv)), (u9, .inl (cZ, 11, .inl kr))]) [0, 1, 2] rfl) (hK.sub (tys' := [(cI, .int), (cZ, .boolean)]) [0, 1] rfl) hN (ci := 5) rfl rfl rfl) rfl rfl hl.1 rfl (lv_room (Nat.le_of_ble_eq_true rfl)) d_Mo_issue_68 ⟨Nat.le_of_ble_eq_true rfl, Nat.le_of_ble_eq_true rfl⟩).run (fun r_68 h_68 => ?_)
      subst h_68
      rw [hQ]
      have z9 : mo_iss ns fc pn nn vn rn tn (nI k) y = nI (pt_told (rn (pn k)) (vn (pn k)) (nn k)) := by unfold mo_iss; rw [if_pos c_10, nI_clamp (by omega)]; subst c_23; rw [if_pos rfl]
      have q9 : (nI (pt_told (rn (pn k)) (vn (pn k)) (nn k)) : Int32) = mo_iss ns fc pn nn vn rn tn (nI k) y := by rw [z9]
      have e9 : ([(mm, .inr (5, [.int 0, .ref u1, .int (nI n), .int pv, .int wr, .ref u5, .ref u6, .ref u7, .ref u8, .ref u9, .ref u10, .ref u11, .int (nI cn), .ref u13, .int (nI hc), .ref u15, .ref u16, .ref u17, .ref u18, .ref u19, .ref u20, .int (nI ns), .ref u22, .int (nI pz)])), (u8, .inl (cI, 11, .inl kv)), (u9, .inl (cZ, 11, .inl kr)), (u17, .inl (cI, 100, .inl fn)), (u18, .inl (cZ, 100, .inl ft)), (u19, .inl (cI, 100, .inl fp)), (u20, .inl (cI, 100, .inl fc))] : va_W) = [(mm, .inr (5, [.int 0, .ref u1, .int (nI n), .int pv, .int wr, .ref u5, .ref u6, .ref u7, .ref u8, .ref u9, .ref u10, .ref u11, .int (nI cn), .ref u13, .int (nI hc), .ref u15, .ref u16, .ref u17, .ref u18, .ref u19, .ref u20, .int (nI ns), .ref u22, .int (nI pz)])), (u8, .inl (cI, 11, .inl kv)), (u9, .inl (cZ, 11, .inl kr)), (u17, .inl (cI, 100, .inl fn)), (u18, .inl (cZ, 100, .inl ft)), (u19, .inl (cI, 100, .inl fp)), (u20, .inl (cI, 100, .inl fc))] := by rfl
      exact W.iret (v := nI (pt_told (rn (pn k)) (vn (pn k)) (nn k))) hx hb hr (fun t ht hW => ⟨⟨_, (), rfl, q9, by rw [ht, e9]; exact hP, va_K.moved hW.alike hK, by rw [e9]; exact hD⟩, hS.F ht⟩) hS.2.2 d_Mo_issue_71
    · refine lv_tableIn (tgt := 72) (off := 49) hx hb d_Mo_issue_23 (by rw [c_23]; decide) (by rw [c_23]; decide) (by rw [c_23]; rfl) (by decide) ?_
      refine lv_aload_n hx hb d_Mo_issue_72 rfl (lv_at hl 1 rfl) ?_
      refine va_get (D := (dC, dI)) (ci := 5) (v := .ref u18) (C := "PatternTextModel") (T := F_Mo) (N := 24) hx hb hts iw_Mo hown hK hP 0 rfl rfl 18 (by decide) (hts _ kw_578) (fun _ h9 => h9) rfl d_Mo_issue_73 ?_
      refine lv_iload_n hx hb d_Mo_issue_76 rfl (lv_at hl 2 rfl) ?_
      refine wy_zald hx hb hK hP 4 1 k rfl rfl (by omega) (by omega) d_Mo_issue_77 ?_
      refine wy_cvi (y := bo_I (tn k)) (e5) ?_
      refine wy_ifeqB (tgt := 85) hx hb d_Mo_issue_78 (by decide) (fun c_78 => ?_) (fun c_78 => ?_)
      · refine lv_iconst (v := 1) hx hb d_Mo_issue_85 (by decide) ?_
        rw [hQ]
        have z9 : mo_iss ns fc pn nn vn rn tn (nI k) y = 1 := by unfold mo_iss; rw [if_pos c_10, nI_clamp (by omega)]; subst c_23; rw [if_neg (by decide)]; rw [if_pos rfl]; first | rw [if_pos c_78] | rw [if_neg (by rw [c_78]; decide)]
        have q9 : (1 : Int32) = mo_iss ns fc pn nn vn rn tn (nI k) y := by rw [z9]
        have e9 : ([(mm, .inr (5, [.int 0, .ref u1, .int (nI n), .int pv, .int wr, .ref u5, .ref u6, .ref u7, .ref u8, .ref u9, .ref u10, .ref u11, .int (nI cn), .ref u13, .int (nI hc), .ref u15, .ref u16, .ref u17, .ref u18, .ref u19, .ref u20, .int (nI ns), .ref u22, .int (nI pz)])), (u8, .inl (cI, 11, .inl kv)), (u9, .inl (cZ, 11, .inl kr)), (u17, .inl (cI, 100, .inl fn)), (u18, .inl (cZ, 100, .inl ft)), (u19, .inl (cI, 100, .inl fp)), (u20, .inl (cI, 100, .inl fc))] : va_W) = [(mm, .inr (5, [.int 0, .ref u1, .int (nI n), .int pv, .int wr, .ref u5, .ref u6, .ref u7, .ref u8, .ref u9, .ref u10, .ref u11, .int (nI cn), .ref u13, .int (nI hc), .ref u15, .ref u16, .ref u17, .ref u18, .ref u19, .ref u20, .int (nI ns), .ref u22, .int (nI pz)])), (u8, .inl (cI, 11, .inl kv)), (u9, .inl (cZ, 11, .inl kr)), (u17, .inl (cI, 100, .inl fn)), (u18, .inl (cZ, 100, .inl ft)), (u19, .inl (cI, 100, .inl fp)), (u20, .inl (cI, 100, .inl fc))] := by rfl
        exact W.iret (v := 1) hx hb hr (fun t ht hW => ⟨⟨_, (), rfl, q9, by rw [ht, e9]; exact hP, va_K.moved hW.alike hK, by rw [e9]; exact hD⟩, hS.F ht⟩) hS.2.2 d_Mo_issue_86
      · refine lv_iconst (v := 2) hx hb d_Mo_issue_81 (by decide) ?_
        refine lv_goto (tgt := 86) hx hb d_Mo_issue_82 (by decide) ?_
        rw [hQ]
        have z9 : mo_iss ns fc pn nn vn rn tn (nI k) y = 2 := by unfold mo_iss; rw [if_pos c_10, nI_clamp (by omega)]; subst c_23; rw [if_neg (by decide)]; rw [if_pos rfl]; first | rw [if_pos c_78] | rw [if_neg (by rw [c_78]; decide)]
        have q9 : (2 : Int32) = mo_iss ns fc pn nn vn rn tn (nI k) y := by rw [z9]
        have e9 : ([(mm, .inr (5, [.int 0, .ref u1, .int (nI n), .int pv, .int wr, .ref u5, .ref u6, .ref u7, .ref u8, .ref u9, .ref u10, .ref u11, .int (nI cn), .ref u13, .int (nI hc), .ref u15, .ref u16, .ref u17, .ref u18, .ref u19, .ref u20, .int (nI ns), .ref u22, .int (nI pz)])), (u8, .inl (cI, 11, .inl kv)), (u9, .inl (cZ, 11, .inl kr)), (u17, .inl (cI, 100, .inl fn)), (u18, .inl (cZ, 100, .inl ft)), (u19, .inl (cI, 100, .inl fp)), (u20, .inl (cI, 100, .inl fc))] : va_W) = [(mm, .inr (5, [.int 0, .ref u1, .int (nI n), .int pv, .int wr, .ref u5, .ref u6, .ref u7, .ref u8, .ref u9, .ref u10, .ref u11, .int (nI cn), .ref u13, .int (nI hc), .ref u15, .ref u16, .ref u17, .ref u18, .ref u19, .ref u20, .int (nI ns), .ref u22, .int (nI pz)])), (u8, .inl (cI, 11, .inl kv)), (u9, .inl (cZ, 11, .inl kr)), (u17, .inl (cI, 100, .inl fn)), (u18, .inl (cZ, 100, .inl ft)), (u19, .inl (cI, 100, .inl fp)), (u20, .inl (cI, 100, .inl fc))] := by rfl
        exact W.iret (v := 2) hx hb hr (fun t ht hW => ⟨⟨_, (), rfl, q9, by rw [ht, e9]; exact hP, va_K.moved hW.alike hK, by rw [e9]; exact hD⟩, hS.F ht⟩) hS.2.2 d_Mo_issue_86
    · refine lv_tableIn (tgt := 87) (off := 64) hx hb d_Mo_issue_23 (by rw [c_23]; decide) (by rw [c_23]; decide) (by rw [c_23]; rfl) (by decide) ?_
      refine lv_aload_n hx hb d_Mo_issue_87 rfl (lv_at hl 1 rfl) ?_
      refine va_get (D := (dC, dI)) (ci := 5) (v := .ref u8) (C := "PatternTextModel") (T := F_Mo) (N := 24) hx hb hts iw_Mo hown hK hP 0 rfl rfl 8 (by decide) (hts _ kw_568) (fun _ h9 => h9) rfl d_Mo_issue_88 ?_
      refine lv_iload_n hx hb d_Mo_issue_91 rfl (lv_at hl 0 rfl) ?_
      refine wy_iald hx hb hK hP 1 0 (pn k) rfl rfl (by omega) (by omega) d_Mo_issue_92 ?_
      refine wy_cvi (y := nI (vn (pn k))) (e3) ?_
      refine wy_ifneN (tgt := 100) hx hb (vn (pn k)) (by omega) d_Mo_issue_93 (by decide) (fun c_93 => ?_) (fun c_93 => ?_)
      · refine lv_aload_n hx hb d_Mo_issue_100 rfl (lv_at hl 1 rfl) ?_
        refine va_get (D := (dC, dI)) (ci := 5) (v := .ref u17) (C := "PatternTextModel") (T := F_Mo) (N := 24) hx hb hts iw_Mo hown hK hP 0 rfl rfl 17 (by decide) (hts _ kw_577) (fun _ h9 => h9) rfl d_Mo_issue_101 ?_
        refine lv_iload_n hx hb d_Mo_issue_104 rfl (lv_at hl 2 rfl) ?_
        refine wy_iald hx hb hK hP 3 0 k rfl rfl (by omega) (by omega) d_Mo_issue_105 ?_
        refine wy_cvi (y := nI (nn k)) (e2) ?_
        refine lv_iconst (v := 1) hx hb d_Mo_issue_106 (by decide) ?_
        refine wy_isub hx hb (nn k) 1 (by omega) d_Mo_issue_107 ?_
        refine lv_aload_n hx hb d_Mo_issue_108 rfl (lv_at hl 1 rfl) ?_
        refine va_get (D := (dC, dI)) (ci := 5) (v := .ref u8) (C := "PatternTextModel") (T := F_Mo) (N := 24) hx hb hts iw_Mo hown hK hP 0 rfl rfl 8 (by decide) (hts _ kw_568) (fun _ h9 => h9) rfl d_Mo_issue_109 ?_
        refine lv_iload_n hx hb d_Mo_issue_112 rfl (lv_at hl 0 rfl) ?_
        refine wy_iald hx hb hK hP 1 0 (pn k) rfl rfl (by omega) (by omega) d_Mo_issue_113 ?_
        refine wy_cvi (y := nI (vn (pn k))) (e3) ?_
        refine wy_idiv hx hb ((nn k) - 1) (vn (pn k)) (by omega) (by omega) (by omega) d_Mo_issue_114 ?_
        refine lv_iconst (v := 1) hx hb d_Mo_issue_115 (by decide) ?_
        refine wy_iadd hx hb (((nn k) - 1) / (vn (pn k))) 1 d_Mo_issue_116 ?_
        rw [hQ]
        have z9 : mo_iss ns fc pn nn vn rn tn (nI k) y = nI ((((nn k) - 1) / (vn (pn k))) + 1) := by unfold mo_iss; rw [if_pos c_10, nI_clamp (by omega)]; subst c_23; rw [if_neg (by decide)]; rw [if_neg (by decide)]; rw [if_pos rfl]; congr 1; unfold pt_vol; rw [if_pos (by omega)]
        have q9 : (nI ((((nn k) - 1) / (vn (pn k))) + 1) : Int32) = mo_iss ns fc pn nn vn rn tn (nI k) y := by rw [z9]
        have e9 : ([(mm, .inr (5, [.int 0, .ref u1, .int (nI n), .int pv, .int wr, .ref u5, .ref u6, .ref u7, .ref u8, .ref u9, .ref u10, .ref u11, .int (nI cn), .ref u13, .int (nI hc), .ref u15, .ref u16, .ref u17, .ref u18, .ref u19, .ref u20, .int (nI ns), .ref u22, .int (nI pz)])), (u8, .inl (cI, 11, .inl kv)), (u9, .inl (cZ, 11, .inl kr)), (u17, .inl (cI, 100, .inl fn)), (u18, .inl (cZ, 100, .inl ft)), (u19, .inl (cI, 100, .inl fp)), (u20, .inl (cI, 100, .inl fc))] : va_W) = [(mm, .inr (5, [.int 0, .ref u1, .int (nI n), .int pv, .int wr, .ref u5, .ref u6, .ref u7, .ref u8, .ref u9, .ref u10, .ref u11, .int (nI cn), .ref u13, .int (nI hc), .ref u15, .ref u16, .ref u17, .ref u18, .ref u19, .ref u20, .int (nI ns), .ref u22, .int (nI pz)])), (u8, .inl (cI, 11, .inl kv)), (u9, .inl (cZ, 11, .inl kr)), (u17, .inl (cI, 100, .inl fn)), (u18, .inl (cZ, 100, .inl ft)), (u19, .inl (cI, 100, .inl fp)), (u20, .inl (cI, 100, .inl fc))] := by rfl
        exact W.iret (v := nI ((((nn k) - 1) / (vn (pn k))) + 1)) hx hb hr (fun t ht hW => ⟨⟨_, (), rfl, q9, by rw [ht, e9]; exact hP, va_K.moved hW.alike hK, by rw [e9]; exact hD⟩, hS.F ht⟩) hS.2.2 d_Mo_issue_117
      · refine lv_iconst (v := 0) hx hb d_Mo_issue_96 (by decide) ?_
        refine lv_goto (tgt := 117) hx hb d_Mo_issue_97 (by decide) ?_
        rw [hQ]
        have z9 : mo_iss ns fc pn nn vn rn tn (nI k) y = 0 := by unfold mo_iss; rw [if_pos c_10, nI_clamp (by omega)]; subst c_23; rw [if_neg (by decide)]; rw [if_neg (by decide)]; rw [if_pos rfl]; congr 1; unfold pt_vol; rw [if_neg (by omega)]
        have q9 : (0 : Int32) = mo_iss ns fc pn nn vn rn tn (nI k) y := by rw [z9]
        have e9 : ([(mm, .inr (5, [.int 0, .ref u1, .int (nI n), .int pv, .int wr, .ref u5, .ref u6, .ref u7, .ref u8, .ref u9, .ref u10, .ref u11, .int (nI cn), .ref u13, .int (nI hc), .ref u15, .ref u16, .ref u17, .ref u18, .ref u19, .ref u20, .int (nI ns), .ref u22, .int (nI pz)])), (u8, .inl (cI, 11, .inl kv)), (u9, .inl (cZ, 11, .inl kr)), (u17, .inl (cI, 100, .inl fn)), (u18, .inl (cZ, 100, .inl ft)), (u19, .inl (cI, 100, .inl fp)), (u20, .inl (cI, 100, .inl fc))] : va_W) = [(mm, .inr (5, [.int 0, .ref u1, .int (nI n), .int pv, .int wr, .ref u5, .ref u6, .ref u7, .ref u8, .ref u9, .ref u10, .ref u11, .int (nI cn), .ref u13, .int (nI hc), .ref u15, .ref u16, .ref u17, .ref u18, .ref u19, .ref u20, .int (nI ns), .ref u22, .int (nI pz)])), (u8, .inl (cI, 11, .inl kv)), (u9, .inl (cZ, 11, .inl kr)), (u17, .inl (cI, 100, .inl fn)), (u18, .inl (cZ, 100, .inl ft)), (u19, .inl (cI, 100, .inl fp)), (u20, .inl (cI, 100, .inl fc))] := by rfl
        exact W.iret (v := 0) hx hb hr (fun t ht hW => ⟨⟨_, (), rfl, q9, by rw [ht, e9]; exact hP, va_K.moved hW.alike hK, by rw [e9]; exact hD⟩, hS.F ht⟩) hS.2.2 d_Mo_issue_117
    · refine lv_tableIn (tgt := 118) (off := 95) hx hb d_Mo_issue_23 (by rw [c_23]; decide) (by rw [c_23]; decide) (by rw [c_23]; rfl) (by decide) ?_
      refine lv_aload_n hx hb d_Mo_issue_118 rfl (lv_at hl 1 rfl) ?_
      refine va_get (D := (dC, dI)) (ci := 5) (v := .ref u18) (C := "PatternTextModel") (T := F_Mo) (N := 24) hx hb hts iw_Mo hown hK hP 0 rfl rfl 18 (by decide) (hts _ kw_578) (fun _ h9 => h9) rfl d_Mo_issue_119 ?_
      refine lv_iload_n hx hb d_Mo_issue_122 rfl (lv_at hl 2 rfl) ?_
      refine wy_zald hx hb hK hP 4 1 k rfl rfl (by omega) (by omega) d_Mo_issue_123 ?_
      refine wy_cvi (y := bo_I (tn k)) (e5) ?_
      refine wy_ifeqB (tgt := 143) hx hb d_Mo_issue_124 (by decide) (fun c_124 => ?_) (fun c_124 => ?_)
      · refine lv_iconst (v := 0) hx hb d_Mo_issue_143 (by decide) ?_
        rw [hQ]
        have z9 : mo_iss ns fc pn nn vn rn tn (nI k) y = 0 := by unfold mo_iss; rw [if_pos c_10, nI_clamp (by omega)]; subst c_23; rw [if_neg (by decide)]; rw [if_neg (by decide)]; rw [if_neg (by decide)]; rw [if_pos rfl]; first | rw [if_pos c_124] | rw [if_neg (by rw [c_124]; decide)]
        have q9 : (0 : Int32) = mo_iss ns fc pn nn vn rn tn (nI k) y := by rw [z9]
        have e9 : ([(mm, .inr (5, [.int 0, .ref u1, .int (nI n), .int pv, .int wr, .ref u5, .ref u6, .ref u7, .ref u8, .ref u9, .ref u10, .ref u11, .int (nI cn), .ref u13, .int (nI hc), .ref u15, .ref u16, .ref u17, .ref u18, .ref u19, .ref u20, .int (nI ns), .ref u22, .int (nI pz)])), (u8, .inl (cI, 11, .inl kv)), (u9, .inl (cZ, 11, .inl kr)), (u17, .inl (cI, 100, .inl fn)), (u18, .inl (cZ, 100, .inl ft)), (u19, .inl (cI, 100, .inl fp)), (u20, .inl (cI, 100, .inl fc))] : va_W) = [(mm, .inr (5, [.int 0, .ref u1, .int (nI n), .int pv, .int wr, .ref u5, .ref u6, .ref u7, .ref u8, .ref u9, .ref u10, .ref u11, .int (nI cn), .ref u13, .int (nI hc), .ref u15, .ref u16, .ref u17, .ref u18, .ref u19, .ref u20, .int (nI ns), .ref u22, .int (nI pz)])), (u8, .inl (cI, 11, .inl kv)), (u9, .inl (cZ, 11, .inl kr)), (u17, .inl (cI, 100, .inl fn)), (u18, .inl (cZ, 100, .inl ft)), (u19, .inl (cI, 100, .inl fp)), (u20, .inl (cI, 100, .inl fc))] := by rfl
        exact W.iret (v := 0) hx hb hr (fun t ht hW => ⟨⟨_, (), rfl, q9, by rw [ht, e9]; exact hP, va_K.moved hW.alike hK, by rw [e9]; exact hD⟩, hS.F ht⟩) hS.2.2 d_Mo_issue_144
      · refine lv_aload_n hx hb d_Mo_issue_127 rfl (lv_at hl 1 rfl) ?_
        refine lv_iload_n hx hb d_Mo_issue_128 rfl (lv_at hl 0 rfl) ?_
        refine lv_aload_n hx hb d_Mo_issue_129 rfl (lv_at hl 1 rfl) ?_
        refine va_get (D := (dC, dI)) (ci := 5) (v := .ref u17) (C := "PatternTextModel") (T := F_Mo) (N := 24) hx hb hts iw_Mo hown hK hP 0 rfl rfl 17 (by decide) (hts _ kw_577) (fun _ h9 => h9) rfl d_Mo_issue_130 ?_
        refine lv_iload_n hx hb d_Mo_issue_133 rfl (lv_at hl 2 rfl) ?_
        refine wy_iald hx hb hK hP 3 0 k rfl rfl (by omega) (by omega) d_Mo_issue_134 ?_
        refine wy_cvi (y := nI (nn k)) (e2) ?_
        refine lv_iconst (v := 1) hx hb d_Mo_issue_135 (by decide) ?_
        refine wy_iadd hx hb (nn k) 1 d_Mo_issue_136 ?_
        refine vp_callSi (va_runV (As := [.int (nI (pn k)), .int (nI ((nn k) + 1))]) (rest := []) ⟨hx, hb, hml, hown, hts⟩ (c_Mo_told l dC dI mm u1 u5 u6 u7 u8 u9 u10 u11 u13 u15 u16 u17 u18 u19 u20 u22 0 n pv wr cn hc ns pz cI cZ kv kr (pn k) ((nn k) + 1) (vn (pn k)) (rn (pn k)) (by omega) (by omega) (by omega) (e3) (e4) (by omega) (b5)) (cwV 2 hts (ga_V kw_739 kw_741 kw_30 kw_38 (ga_in kw_742)) rfl rfl rfl (by decide +kernel) ⟨Nat.le_of_ble_eq_true rfl, Nat.le_of_ble_eq_true rfl⟩) (wy_preV 0 (hP.sub (ws' := [(mm, .inr (5, [.int 0, .ref u1, .int (nI n), .int pv, .int wr, .ref u5, .ref u6, .ref u7, .ref u8, .ref u9, .ref u10, .ref u11, .int (nI cn), .ref u13, .int (nI hc), .ref u15, .ref u16, .ref u17, .ref u18, .ref u19, .ref u20, .int (nI ns), .ref u22, .int (nI pz)])), (u8, .inl (cI, 11, .inl kv)), (u9, .inl (cZ, 11, .inl kr))]) [0, 1, 2] rfl) (hK.sub (tys' := [(cI, .int), (cZ, .boolean)]) [0, 1] rfl) hN (ci := 5) rfl rfl rfl) rfl rfl hl.1 rfl (lv_room (Nat.le_of_ble_eq_true rfl)) d_Mo_issue_137 ⟨Nat.le_of_ble_eq_true rfl, Nat.le_of_ble_eq_true rfl⟩).run (fun r_137 h_137 => ?_)
        subst h_137
        refine lv_goto (tgt := 144) hx hb d_Mo_issue_140 (by decide) ?_
        rw [hQ]
        have z9 : mo_iss ns fc pn nn vn rn tn (nI k) y = nI (pt_told (rn (pn k)) (vn (pn k)) ((nn k) + 1)) := by unfold mo_iss; rw [if_pos c_10, nI_clamp (by omega)]; subst c_23; rw [if_neg (by decide)]; rw [if_neg (by decide)]; rw [if_neg (by decide)]; rw [if_pos rfl]; first | rw [if_pos c_124] | rw [if_neg (by rw [c_124]; decide)]
        have q9 : (nI (pt_told (rn (pn k)) (vn (pn k)) ((nn k) + 1)) : Int32) = mo_iss ns fc pn nn vn rn tn (nI k) y := by rw [z9]
        have e9 : ([(mm, .inr (5, [.int 0, .ref u1, .int (nI n), .int pv, .int wr, .ref u5, .ref u6, .ref u7, .ref u8, .ref u9, .ref u10, .ref u11, .int (nI cn), .ref u13, .int (nI hc), .ref u15, .ref u16, .ref u17, .ref u18, .ref u19, .ref u20, .int (nI ns), .ref u22, .int (nI pz)])), (u8, .inl (cI, 11, .inl kv)), (u9, .inl (cZ, 11, .inl kr)), (u17, .inl (cI, 100, .inl fn)), (u18, .inl (cZ, 100, .inl ft)), (u19, .inl (cI, 100, .inl fp)), (u20, .inl (cI, 100, .inl fc))] : va_W) = [(mm, .inr (5, [.int 0, .ref u1, .int (nI n), .int pv, .int wr, .ref u5, .ref u6, .ref u7, .ref u8, .ref u9, .ref u10, .ref u11, .int (nI cn), .ref u13, .int (nI hc), .ref u15, .ref u16, .ref u17, .ref u18, .ref u19, .ref u20, .int (nI ns), .ref u22, .int (nI pz)])), (u8, .inl (cI, 11, .inl kv)), (u9, .inl (cZ, 11, .inl kr)), (u17, .inl (cI, 100, .inl fn)), (u18, .inl (cZ, 100, .inl ft)), (u19, .inl (cI, 100, .inl fp)), (u20, .inl (cI, 100, .inl fc))] := by rfl
        exact W.iret (v := nI (pt_told (rn (pn k)) (vn (pn k)) ((nn k) + 1))) hx hb hr (fun t ht hW => ⟨⟨_, (), rfl, q9, by rw [ht, e9]; exact hP, va_K.moved hW.alike hK, by rw [e9]; exact hD⟩, hS.F ht⟩) hS.2.2 d_Mo_issue_144
    · refine lv_tableIn (tgt := 145) (off := 122) hx hb d_Mo_issue_23 (by rw [c_23]; decide) (by rw [c_23]; decide) (by rw [c_23]; rfl) (by decide) ?_
      refine lv_iload_n hx hb d_Mo_issue_145 rfl (lv_at hl 0 rfl) ?_
      rw [hQ]
      have z9 : mo_iss ns fc pn nn vn rn tn (nI k) y = nI (pn k) := by unfold mo_iss; rw [if_pos c_10, nI_clamp (by omega)]; subst c_23; rw [if_neg (by decide)]; rw [if_neg (by decide)]; rw [if_neg (by decide)]; rw [if_neg (by decide)]; rw [if_pos rfl]
      have q9 : (nI (pn k) : Int32) = mo_iss ns fc pn nn vn rn tn (nI k) y := by rw [z9]
      have e9 : ([(mm, .inr (5, [.int 0, .ref u1, .int (nI n), .int pv, .int wr, .ref u5, .ref u6, .ref u7, .ref u8, .ref u9, .ref u10, .ref u11, .int (nI cn), .ref u13, .int (nI hc), .ref u15, .ref u16, .ref u17, .ref u18, .ref u19, .ref u20, .int (nI ns), .ref u22, .int (nI pz)])), (u8, .inl (cI, 11, .inl kv)), (u9, .inl (cZ, 11, .inl kr)), (u17, .inl (cI, 100, .inl fn)), (u18, .inl (cZ, 100, .inl ft)), (u19, .inl (cI, 100, .inl fp)), (u20, .inl (cI, 100, .inl fc))] : va_W) = [(mm, .inr (5, [.int 0, .ref u1, .int (nI n), .int pv, .int wr, .ref u5, .ref u6, .ref u7, .ref u8, .ref u9, .ref u10, .ref u11, .int (nI cn), .ref u13, .int (nI hc), .ref u15, .ref u16, .ref u17, .ref u18, .ref u19, .ref u20, .int (nI ns), .ref u22, .int (nI pz)])), (u8, .inl (cI, 11, .inl kv)), (u9, .inl (cZ, 11, .inl kr)), (u17, .inl (cI, 100, .inl fn)), (u18, .inl (cZ, 100, .inl ft)), (u19, .inl (cI, 100, .inl fp)), (u20, .inl (cI, 100, .inl fc))] := by rfl
      exact W.iret (v := nI (pn k)) hx hb hr (fun t ht hW => ⟨⟨_, (), rfl, q9, by rw [ht, e9]; exact hP, va_K.moved hW.alike hK, by rw [e9]; exact hD⟩, hS.F ht⟩) hS.2.2 d_Mo_issue_146
    · refine lv_tableIn (tgt := 147) (off := 124) hx hb d_Mo_issue_23 (by rw [c_23]; decide) (by rw [c_23]; decide) (by rw [c_23]; rfl) (by decide) ?_
      refine lv_aload_n hx hb d_Mo_issue_147 rfl (lv_at hl 1 rfl) ?_
      refine va_get (D := (dC, dI)) (ci := 5) (v := .ref u20) (C := "PatternTextModel") (T := F_Mo) (N := 24) hx hb hts iw_Mo hown hK hP 0 rfl rfl 20 (by decide) (hts _ kw_580) (fun _ h9 => h9) rfl d_Mo_issue_148 ?_
      refine lv_iload_n hx hb d_Mo_issue_151 rfl (lv_at hl 2 rfl) ?_
      refine wy_iald hx hb hK hP 6 0 k rfl rfl (by omega) (by omega) d_Mo_issue_152 ?_
      refine lv_iconst (v := -1) hx hb d_Mo_issue_153 (by decide) ?_
      refine lv_icmp_ne (tgt := 161) hx hb d_Mo_issue_154 (by decide) (fun c_154 => ?_) (fun c_154 => ?_)
      · refine lv_iconst (v := 1) hx hb d_Mo_issue_161 (by decide) ?_
        rw [hQ]
        have z9 : mo_iss ns fc pn nn vn rn tn (nI k) y = 1 := by unfold mo_iss; rw [if_pos c_10, nI_clamp (by omega)]; subst c_23; rw [if_neg (by decide)]; rw [if_neg (by decide)]; rw [if_neg (by decide)]; rw [if_neg (by decide)]; rw [if_neg (by decide)]; rw [if_pos rfl]; first | rw [if_pos c_154] | rw [if_neg c_154]
        have q9 : (1 : Int32) = mo_iss ns fc pn nn vn rn tn (nI k) y := by rw [z9]
        have e9 : ([(mm, .inr (5, [.int 0, .ref u1, .int (nI n), .int pv, .int wr, .ref u5, .ref u6, .ref u7, .ref u8, .ref u9, .ref u10, .ref u11, .int (nI cn), .ref u13, .int (nI hc), .ref u15, .ref u16, .ref u17, .ref u18, .ref u19, .ref u20, .int (nI ns), .ref u22, .int (nI pz)])), (u8, .inl (cI, 11, .inl kv)), (u9, .inl (cZ, 11, .inl kr)), (u17, .inl (cI, 100, .inl fn)), (u18, .inl (cZ, 100, .inl ft)), (u19, .inl (cI, 100, .inl fp)), (u20, .inl (cI, 100, .inl fc))] : va_W) = [(mm, .inr (5, [.int 0, .ref u1, .int (nI n), .int pv, .int wr, .ref u5, .ref u6, .ref u7, .ref u8, .ref u9, .ref u10, .ref u11, .int (nI cn), .ref u13, .int (nI hc), .ref u15, .ref u16, .ref u17, .ref u18, .ref u19, .ref u20, .int (nI ns), .ref u22, .int (nI pz)])), (u8, .inl (cI, 11, .inl kv)), (u9, .inl (cZ, 11, .inl kr)), (u17, .inl (cI, 100, .inl fn)), (u18, .inl (cZ, 100, .inl ft)), (u19, .inl (cI, 100, .inl fp)), (u20, .inl (cI, 100, .inl fc))] := by rfl
        exact W.iret (v := 1) hx hb hr (fun t ht hW => ⟨⟨_, (), rfl, q9, by rw [ht, e9]; exact hP, va_K.moved hW.alike hK, by rw [e9]; exact hD⟩, hS.F ht⟩) hS.2.2 d_Mo_issue_162
      · refine lv_iconst (v := 0) hx hb d_Mo_issue_157 (by decide) ?_
        refine lv_goto (tgt := 162) hx hb d_Mo_issue_158 (by decide) ?_
        rw [hQ]
        have z9 : mo_iss ns fc pn nn vn rn tn (nI k) y = 0 := by unfold mo_iss; rw [if_pos c_10, nI_clamp (by omega)]; subst c_23; rw [if_neg (by decide)]; rw [if_neg (by decide)]; rw [if_neg (by decide)]; rw [if_neg (by decide)]; rw [if_neg (by decide)]; rw [if_pos rfl]; first | rw [if_pos c_154] | rw [if_neg c_154]
        have q9 : (0 : Int32) = mo_iss ns fc pn nn vn rn tn (nI k) y := by rw [z9]
        have e9 : ([(mm, .inr (5, [.int 0, .ref u1, .int (nI n), .int pv, .int wr, .ref u5, .ref u6, .ref u7, .ref u8, .ref u9, .ref u10, .ref u11, .int (nI cn), .ref u13, .int (nI hc), .ref u15, .ref u16, .ref u17, .ref u18, .ref u19, .ref u20, .int (nI ns), .ref u22, .int (nI pz)])), (u8, .inl (cI, 11, .inl kv)), (u9, .inl (cZ, 11, .inl kr)), (u17, .inl (cI, 100, .inl fn)), (u18, .inl (cZ, 100, .inl ft)), (u19, .inl (cI, 100, .inl fp)), (u20, .inl (cI, 100, .inl fc))] : va_W) = [(mm, .inr (5, [.int 0, .ref u1, .int (nI n), .int pv, .int wr, .ref u5, .ref u6, .ref u7, .ref u8, .ref u9, .ref u10, .ref u11, .int (nI cn), .ref u13, .int (nI hc), .ref u15, .ref u16, .ref u17, .ref u18, .ref u19, .ref u20, .int (nI ns), .ref u22, .int (nI pz)])), (u8, .inl (cI, 11, .inl kv)), (u9, .inl (cZ, 11, .inl kr)), (u17, .inl (cI, 100, .inl fn)), (u18, .inl (cZ, 100, .inl ft)), (u19, .inl (cI, 100, .inl fp)), (u20, .inl (cI, 100, .inl fc))] := by rfl
        exact W.iret (v := 0) hx hb hr (fun t ht hW => ⟨⟨_, (), rfl, q9, by rw [ht, e9]; exact hP, va_K.moved hW.alike hK, by rw [e9]; exact hD⟩, hS.F ht⟩) hS.2.2 d_Mo_issue_162
  · refine lv_iconst (v := -1) hx hb d_Mo_issue_13 (by decide) ?_
    rw [hQ]
    have z9 : mo_iss ns fc pn nn vn rn tn x y = (-1) := by unfold mo_iss; exact if_neg (by rw [c_10]; decide)
    have q9 : ((-1) : Int32) = mo_iss ns fc pn nn vn rn tn x y := by rw [z9]
    have e9 : ([(mm, .inr (5, [.int 0, .ref u1, .int (nI n), .int pv, .int wr, .ref u5, .ref u6, .ref u7, .ref u8, .ref u9, .ref u10, .ref u11, .int (nI cn), .ref u13, .int (nI hc), .ref u15, .ref u16, .ref u17, .ref u18, .ref u19, .ref u20, .int (nI ns), .ref u22, .int (nI pz)])), (u8, .inl (cI, 11, .inl kv)), (u9, .inl (cZ, 11, .inl kr)), (u17, .inl (cI, 100, .inl fn)), (u18, .inl (cZ, 100, .inl ft)), (u19, .inl (cI, 100, .inl fp)), (u20, .inl (cI, 100, .inl fc))] : va_W) = [(mm, .inr (5, [.int 0, .ref u1, .int (nI n), .int pv, .int wr, .ref u5, .ref u6, .ref u7, .ref u8, .ref u9, .ref u10, .ref u11, .int (nI cn), .ref u13, .int (nI hc), .ref u15, .ref u16, .ref u17, .ref u18, .ref u19, .ref u20, .int (nI ns), .ref u22, .int (nI pz)])), (u8, .inl (cI, 11, .inl kv)), (u9, .inl (cZ, 11, .inl kr)), (u17, .inl (cI, 100, .inl fn)), (u18, .inl (cZ, 100, .inl ft)), (u19, .inl (cI, 100, .inl fp)), (u20, .inl (cI, 100, .inl fc))] := by rfl
    exact W.iret (v := (-1)) hx hb hr (fun t ht hW => ⟨⟨_, (), rfl, q9, by rw [ht, e9]; exact hP, va_K.moved hW.alike hK, by rw [e9]; exact hD⟩, hS.F ht⟩) hS.2.2 d_Mo_issue_14
