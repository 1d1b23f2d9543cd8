set_option maxHeartbeats 4000000 in
set_option maxRecDepth 100000 in
theorem c_Pa_patternOf_n (l : Launch) (dC : Nat → ClassId) (dI : Nat → Nat → Nat) (xx : Nat) (rd : Nat) (qa : Nat) (ho : Nat) (li : Nat) (cn : Nat) (pr : Value) (cP : ClassId) (pf : Nat → Option Nat) (x : Int32) (hc0 : cn ≤ 10) (hno : li_has cn x = false) : Met l y_Pa_patternOf w_Pa_patternOf ({ frames := 0, cells := 0, slots := 0, locals := 0 }) (va_Pc [.ref xx, .int x] (wy_R (dC, dI) ga_cl [(xx, .inr (4, [.ref rd, .ref qa, .ref ho, .ref li, .int (nI cn), pr])), (qa, .inl (cP, 10, .inr (.inr (.inr (.inr pf)))))] [(cP, .object "PatternText$Pattern")])) (va_Sq (fun r => r = none)) 0 0 (fun _ => False) := by
  refine Met.ofW (cc := b_Pa_patternOf) (maxL := 2) (ret := (some (.object "PatternText$Pattern"))) (by decide) rfl ?_
  intro p e s m args below meth c s₁ B hml hv
  obtain ⟨rfl, hP, hK, hN⟩ := hv
  have hx := B.exec
  have hb := B.bytes
  have hr := B.returns
  have hts : ∀ w ∈ ga_tbl, w.before _ s = true := fun w h => atoms_spec (ws := w_Pa_patternOf) B.pre w (List.mem_cons_of_mem _ h)
  have hown : s.vm.findClass "PatternText" = some m.cls := findClass_of_methodNamed B.named
  have hlocks := B.notSynchronized
  have hl := lv_entry ([.ref xx, .int x]) (n := 2) (Nat.le_of_ble_eq_true rfl)
  rw [lg_entry_eq]
  generalize (lg_sl ([.ref xx, .int x]) ++ List.replicate (2 - (lg_sl ([.ref xx, .int x])).length) Slot.unset).toArray = ls at hl ⊢
  have hl : lv_has ls 2 [(0, .ref xx), (1, .int x)] := hl
  refine lv_iload_n hx hb d_Pa_patternOf_0 rfl (lv_at hl 1 rfl) ?_
  refine lv_if_lt (tgt := 27) hx hb d_Pa_patternOf_1 (by decide) (fun c_1 => ?_) (fun c_1 => ?_)
  · refine lv_null hx hb d_Pa_patternOf_27 ?_
    have q9 : (none : Option Nat) = none := by rfl
    exact W.aret (v := va_rf (none)) hx hb hr (Or.inl ⟨_, rfl⟩) (va_rf_or _) (fun t ht _ => ⟨_, rfl, q9, ht⟩) (fun _ h9 => by cases h9) d_Pa_patternOf_28
  · refine lv_iload_n hx hb d_Pa_patternOf_4 rfl (lv_at hl 1 rfl) ?_
    refine lv_aload_n hx hb d_Pa_patternOf_5 rfl (lv_at hl 0 rfl) ?_
    refine va_get (D := (dC, dI)) (ci := 4) (v := .int (nI cn)) (C := "PatternText") (T := F_Pa) (N := 6) hx hb hts iw_Pa hown hK hP 0 rfl rfl 4 (by decide) (hts _ kw_159) (fun _ h9 => h9) rfl d_Pa_patternOf_6 ?_
    refine lv_icmp_ge (tgt := 27) hx hb d_Pa_patternOf_9 (by decide) (fun c_9 => ?_) (fun c_9 => ?_)
    · refine lv_null hx hb d_Pa_patternOf_27 ?_
      have q9 : (none : Option Nat) = none := by rfl
      exact W.aret (v := va_rf (none)) hx hb hr (Or.inl ⟨_, rfl⟩) (va_rf_or _) (fun t ht _ => ⟨_, rfl, q9, ht⟩) (fun _ h9 => by cases h9) d_Pa_patternOf_28
    · refine lv_iload_n hx hb d_Pa_patternOf_12 rfl (lv_at hl 1 rfl) ?_
      refine lv_bipush (v := 10) hx hb d_Pa_patternOf_13 (by decide) ?_
      refine lv_icmp_ge (tgt := 27) hx hb d_Pa_patternOf_15 (by decide) (fun c_15 => ?_) (fun c_15 => ?_)
      · refine lv_null hx hb d_Pa_patternOf_27 ?_
        have q9 : (none : Option Nat) = none := by rfl
        exact W.aret (v := va_rf (none)) hx hb hr (Or.inl ⟨_, rfl⟩) (va_rf_or _) (fun t ht _ => ⟨_, rfl, q9, ht⟩) (fun _ h9 => by cases h9) d_Pa_patternOf_28
      · exact absurd (show li_has cn x = true by simp only [li_has, Bool.and_eq_true, decide_eq_true_eq]; exact ⟨Int32.not_lt.mp c_1, Int32.not_le.mp c_9⟩) (by rw [hno]; decide)

set_option maxHeartbeats 4000000 in
set_option maxRecDepth 100000 in
theorem c_Pa_patternOf_s (l : Launch) (dC : Nat → ClassId) (dI : Nat → Nat → Nat) (xx : Nat) (rd : Nat) (qa : Nat) (ho : Nat) (li : Nat) (cn : Nat) (pr : Value) (cP : ClassId) (pf : Nat → Option Nat) (pq : Nat) (pa : Nat) (hc0 : cn ≤ 10) (hk : pq < cn) (hpf : pf pq = some pa) : Met l y_Pa_patternOf w_Pa_patternOf ({ frames := 0, cells := 0, slots := 0, locals := 0 }) (va_Pc [.ref xx, .int (nI pq)] (wy_R (dC, dI) ga_cl [(xx, .inr (4, [.ref rd, .ref qa, .ref ho, .ref li, .int (nI cn), pr])), (qa, .inl (cP, 10, .inr (.inr (.inr (.inr pf)))))] [(cP, .object "PatternText$Pattern")])) (va_Sq (fun r => r = some pa)) 0 0 (fun _ => False) := by
  refine Met.ofW (cc := b_Pa_patternOf) (maxL := 2) (ret := (some (.object "PatternText$Pattern"))) (by decide) rfl ?_
  intro p e s m args below meth c s₁ B hml hv
  obtain ⟨rfl, hP, hK, hN⟩ := hv
  have hx := B.exec
  have hb := B.bytes
  have hr := B.returns
  have hts : ∀ w ∈ ga_tbl, w.before _ s = true := fun w h => atoms_spec (ws := w_Pa_patternOf) B.pre w (List.mem_cons_of_mem _ h)
  have hown : s.vm.findClass "PatternText" = some m.cls := findClass_of_methodNamed B.named
  have hlocks := B.notSynchronized
  have hl := lv_entry ([.ref xx, .int (nI pq)]) (n := 2) (Nat.le_of_ble_eq_true rfl)
  rw [lg_entry_eq]
  generalize (lg_sl ([.ref xx, .int (nI pq)]) ++ List.replicate (2 - (lg_sl ([.ref xx, .int (nI pq)])).length) Slot.unset).toArray = ls at hl ⊢
  have hl : lv_has ls 2 [(0, .ref xx), (1, .int (nI pq))] := hl
  refine lv_iload_n hx hb d_Pa_patternOf_0 rfl (lv_at hl 1 rfl) ?_
  refine wy_ifltN (tgt := 27) hx hb pq (by omega) d_Pa_patternOf_1 (by decide) ?_
  refine lv_iload_n hx hb d_Pa_patternOf_4 rfl (lv_at hl 1 rfl) ?_
  refine lv_aload_n hx hb d_Pa_patternOf_5 rfl (lv_at hl 0 rfl) ?_
  refine va_get (D := (dC, dI)) (ci := 4) (v := .int (nI cn)) (C := "PatternText") (T := F_Pa) (N := 6) hx hb hts iw_Pa hown hK hP 0 rfl rfl 4 (by decide) (hts _ kw_159) (fun _ h9 => h9) rfl d_Pa_patternOf_6 ?_
  refine wy_icmp_ge (tgt := 27) hx hb pq cn (by omega) (by omega) d_Pa_patternOf_9 (by decide) (fun c_9 => ?_) (fun c_9 => ?_)
  · exact absurd hk (by omega)
  · refine lv_iload_n hx hb d_Pa_patternOf_12 rfl (lv_at hl 1 rfl) ?_
    refine lv_bipush (v := 10) hx hb d_Pa_patternOf_13 (by decide) ?_
    refine wy_icmp_ge (tgt := 27) hx hb pq 10 (by omega) (by omega) d_Pa_patternOf_15 (by decide) (fun c_15 => ?_) (fun c_15 => ?_)
    · exact absurd hk (by omega)
    · refine lv_aload_n hx hb d_Pa_patternOf_18 rfl (lv_at hl 0 rfl) ?_
      refine va_get (D := (dC, dI)) (ci := 4) (v := .ref qa) (C := "PatternText") (T := F_Pa) (N := 6) hx hb hts iw_Pa hown hK hP 0 rfl rfl 1 (by decide) (hts _ kw_156) (fun _ h9 => h9) rfl d_Pa_patternOf_19 ?_
      refine lv_iload_n hx hb d_Pa_patternOf_22 rfl (lv_at hl 1 rfl) ?_
      refine wy_aldq (o := some pa) hx hb hK hP 1 0 pq rfl rfl (by omega) (by omega) (hpf) d_Pa_patternOf_23 ?_
      refine lv_goto (tgt := 28) hx hb d_Pa_patternOf_24 (by decide) ?_
      have q9 : (some pa : Option Nat) = some pa := by rfl
      exact W.aret (v := va_rf (some pa)) hx hb hr (Or.inl ⟨_, rfl⟩) (va_rf_or _) (fun t ht _ => ⟨_, rfl, q9, ht⟩) (fun _ h9 => by cases h9) d_Pa_patternOf_28

set_option maxHeartbeats 4000000 in
set_option maxRecDepth 100000 in
theorem c_Pa_foretell_n (l : Launch) (dC : Nat → ClassId) (dI : Nat → Nat → Nat) (xx : Nat) (rd : Nat) (qa : Nat) (ho : Nat) (li : Nat) (cn : Nat) (pr : Value) (cP : ClassId) (pf : Nat → Option Nat) (x : Int32) (y : Int32) (z : Int32) (hc0 : cn ≤ 10) (hno : li_has cn x = false) : Met l y_Pa_foretell w_Pa_foretell ({ frames := 1, cells := 0, slots := 0, locals := 21 }) (va_Pc [.ref xx, .int x, .int y, .int z] (wy_R (dC, dI) ga_cl [(xx, .inr (4, [.ref rd, .ref qa, .ref ho, .ref li, .int (nI cn), pr])), (qa, .inl (cP, 10, .inr (.inr (.inr (.inr pf)))))] [(cP, .object "PatternText$Pattern")])) (vp_Si (fun r => r = (-1))) 0 0 (fun _ => False) := by
  refine Met.ofW (cc := b_Pa_foretell) (maxL := 5) (ret := (some .int)) (by decide) rfl ?_
  intro p e s m args below meth c s₁ B hml hv
  obtain ⟨rfl, hP, hK, hN⟩ := hv
  have hx := B.exec
  have hb := B.bytes
  have hr := B.returns
  have hts : ∀ w ∈ ga_tbl, w.before _ s = true := fun w h => atoms_spec (ws := w_Pa_foretell) B.pre w (List.mem_cons_of_mem _ h)
  have hown : s.vm.findClass "PatternText" = some m.cls := findClass_of_methodNamed B.named
  have hlocks := B.notSynchronized
  have hl := lv_entry ([.ref xx, .int x, .int y, .int z]) (n := 5) (Nat.le_of_ble_eq_true rfl)
  rw [lg_entry_eq]
  generalize (lg_sl ([.ref xx, .int x, .int y, .int z]) ++ List.replicate (5 - (lg_sl ([.ref xx, .int x, .int y, .int z])).length) Slot.unset).toArray = ls at hl ⊢
  have hl : lv_has ls 5 [(0, .ref xx), (1, .int x), (2, .int y), (3, .int z)] := hl
  refine lv_aload_n hx hb d_Pa_foretell_0 rfl (lv_at hl 0 rfl) ?_
  refine lv_iload_n hx hb d_Pa_foretell_1 rfl (lv_at hl 1 rfl) ?_
  refine va_csq (va_runV (As := [.int x]) (rest := []) ⟨hx, hb, hml, hown, hts⟩ (c_Pa_patternOf_n l dC dI xx rd qa ho li cn pr cP pf x (by omega) (hno)) (cwV 1 hts (ga_V kw_346 kw_348 kw_11 kw_34 (ga_in kw_349)) rfl rfl rfl (by decide +kernel) ⟨Nat.le_of_ble_eq_true rfl, Nat.le_of_ble_eq_true rfl⟩) (wy_preV 0 (hP.sub (ws' := [(xx, .inr (4, [.ref rd, .ref qa, .ref ho, .ref li, .int (nI cn), pr])), (qa, .inl (cP, 10, .inr (.inr (.inr (.inr pf)))))]) [0, 1] rfl) (hK.sub (tys' := [(cP, .object "PatternText$Pattern")]) [0] rfl) hN (ci := 4) rfl rfl rfl) rfl rfl hl.1 rfl (lv_room (Nat.le_of_ble_eq_true rfl)) d_Pa_foretell_2 ⟨Nat.le_of_ble_eq_true rfl, Nat.le_of_ble_eq_true rfl⟩).run (fun r_2 h_2 => ?_)
  subst h_2
  refine lv_astoreN (lv' := [(4, .null), (0, .ref xx), (1, .int x), (2, .int y), (3, .int z)]) hx hb d_Pa_foretell_5 hl (by decide) rfl (fun ls hl => ?_)
  refine lv_aloadN hx hb d_Pa_foretell_7 (lv_at hl 0 rfl) ?_
  refine lv_ifnullN (tgt := 30) hx hb d_Pa_foretell_9 (by decide) ?_
  refine lv_iconst (v := -1) hx hb d_Pa_foretell_30 (by decide) ?_
  have q9 : ((-1) : Int32) = (-1) := by rfl
  exact W.iret (v := (-1)) hx hb hr (fun t ht _ => ⟨_, rfl, q9, ht⟩) (fun _ h9 => by cases h9) d_Pa_foretell_31

set_option maxHeartbeats 4000000 in
set_option maxRecDepth 100000 in
theorem c_Pa_changed_n (l : Launch) (dC : Nat → ClassId) (dI : Nat → Nat → Nat) (xx : Nat) (rd : Nat) (qa : Nat) (ho : Nat) (li : Nat) (cn : Nat) (pr : Value) (cP : ClassId) (pf : Nat → Option Nat) (x : Int32) (y : Int32) (hc0 : cn ≤ 10) (hno : li_has cn x = false) : Met l y_Pa_changed w_Pa_changed ({ frames := 1, cells := 0, slots := 0, locals := 21 }) (va_Pc [.ref xx, .int x, .int y] (wy_R (dC, dI) ga_cl [(xx, .inr (4, [.ref rd, .ref qa, .ref ho, .ref li, .int (nI cn), pr])), (qa, .inl (cP, 10, .inr (.inr (.inr (.inr pf)))))] [(cP, .object "PatternText$Pattern")])) (vp_Si (fun r => r = (-1))) 0 0 (fun _ => False) := by
  refine Met.ofW (cc := b_Pa_changed) (maxL := 6) (ret := (some .int)) (by decide) rfl ?_
  intro p e s m args below meth c s₁ B hml hv
  obtain ⟨rfl, hP, hK, hN⟩ := hv
  have hx := B.exec
  have hb := B.bytes
  have hr := B.returns
  have hts : ∀ w ∈ ga_tbl, w.before _ s = true := fun w h => atoms_spec (ws := w_Pa_changed) B.pre w (List.mem_cons_of_mem _ h)
  have hown : s.vm.findClass "PatternText" = some m.cls := findClass_of_methodNamed B.named
  have hlocks := B.notSynchronized
  have hl := lv_entry ([.ref xx, .int x, .int y]) (n := 6) (Nat.le_of_ble_eq_true rfl)
  rw [lg_entry_eq]
  generalize (lg_sl ([.ref xx, .int x, .int y]) ++ List.replicate (6 - (lg_sl ([.ref xx, .int x, .int y])).length) Slot.unset).toArray = ls at hl ⊢
  have hl : lv_has ls 6 [(0, .ref xx), (1, .int x), (2, .int y)] := hl
  refine lv_aload_n hx hb d_Pa_changed_0 rfl (lv_at hl 0 rfl) ?_
  refine lv_iload_n hx hb d_Pa_changed_1 rfl (lv_at hl 1 rfl) ?_
  refine va_csq (va_runV (As := [.int x]) (rest := []) ⟨hx, hb, hml, hown, hts⟩ (c_Pa_patternOf_n l dC dI xx rd qa ho li cn pr cP pf x (by omega) (hno)) (cwV 1 hts (ga_V kw_346 kw_348 kw_11 kw_34 (ga_in kw_349)) rfl rfl rfl (by decide +kernel) ⟨Nat.le_of_ble_eq_true rfl, Nat.le_of_ble_eq_true rfl⟩) (wy_preV 0 (hP.sub (ws' := [(xx, .inr (4, [.ref rd, .ref qa, .ref ho, .ref li, .int (nI cn), pr])), (qa, .inl (cP, 10, .inr (.inr (.inr (.inr pf)))))]) [0, 1] rfl) (hK.sub (tys' := [(cP, .object "PatternText$Pattern")]) [0] rfl) hN (ci := 4) rfl rfl rfl) rfl rfl hl.1 rfl (lv_room (Nat.le_of_ble_eq_true rfl)) d_Pa_changed_2 ⟨Nat.le_of_ble_eq_true rfl, Nat.le_of_ble_eq_true rfl⟩).run (fun r_2 h_2 => ?_)
  subst h_2
  refine lv_astore_nN (lv' := [(3, .null), (0, .ref xx), (1, .int x), (2, .int y)]) hx hb d_Pa_changed_5 rfl hl (by decide) rfl (fun ls hl => ?_)
  refine lv_aload_nN hx hb d_Pa_changed_6 rfl (lv_at hl 0 rfl) ?_
  refine lv_ifnullN (tgt := 17) hx hb d_Pa_changed_7 (by decide) ?_
  refine lv_iconst (v := -1) hx hb d_Pa_changed_17 (by decide) ?_
  have q9 : ((-1) : Int32) = (-1) := by rfl
  exact W.iret (v := (-1)) hx hb hr (fun t ht _ => ⟨_, rfl, q9, ht⟩) (fun _ h9 => by cases h9) d_Pa_changed_18

set_option maxHeartbeats 4000000 in
set_option maxRecDepth 100000 in
theorem c_Pa_print_n (l : Launch) (dC : Nat → ClassId) (dI : Nat → Nat → Nat) (xx : Nat) (rd : Nat) (qa : Nat) (ho : Nat) (li : Nat) (cn : Nat) (pr : Value) (cP : ClassId) (pf : Nat → Option Nat) (x : Int32) (hc0 : cn ≤ 10) (hno : li_has cn x = false) : Met l y_Pa_print w_Pa_print ({ frames := 1, cells := 0, slots := 0, locals := 21 }) (va_Pc [.ref xx, .int x] (wy_R (dC, dI) ga_cl [(xx, .inr (4, [.ref rd, .ref qa, .ref ho, .ref li, .int (nI cn), pr])), (qa, .inl (cP, 10, .inr (.inr (.inr (.inr pf)))))] [(cP, .object "PatternText$Pattern")])) (vp_Si (fun r => r = 0)) 0 0 (fun _ => False) := by
  refine Met.ofW (cc := b_Pa_print) (maxL := 3) (ret := (some .int)) (by decide) rfl ?_
  intro p e s m args below meth c s₁ B hml hv
  obtain ⟨rfl, hP, hK, hN⟩ := hv
  have hx := B.exec
  have hb := B.bytes
  have hr := B.returns
  have hts : ∀ w ∈ ga_tbl, w.before _ s = true := fun w h => atoms_spec (ws := w_Pa_print) B.pre w (List.mem_cons_of_mem _ h)
  have hown : s.vm.findClass "PatternText" = some m.cls := findClass_of_methodNamed B.named
  have hlocks := B.notSynchronized
  have hl := lv_entry ([.ref xx, .int x]) (n := 3) (Nat.le_of_ble_eq_true rfl)
  rw [lg_entry_eq]
  generalize (lg_sl ([.ref xx, .int x]) ++ List.replicate (3 - (lg_sl ([.ref xx, .int x])).length) Slot.unset).toArray = ls at hl ⊢
  have hl : lv_has ls 3 [(0, .ref xx), (1, .int x)] := hl
  refine lv_aload_n hx hb d_Pa_print_0 rfl (lv_at hl 0 rfl) ?_
  refine lv_iload_n hx hb d_Pa_print_1 rfl (lv_at hl 1 rfl) ?_
  refine va_csq (va_runV (As := [.int x]) (rest := []) ⟨hx, hb, hml, hown, hts⟩ (c_Pa_patternOf_n l dC dI xx rd qa ho li cn pr cP pf x (by omega) (hno)) (cwV 1 hts (ga_V kw_346 kw_348 kw_11 kw_34 (ga_in kw_349)) rfl rfl rfl (by decide +kernel) ⟨Nat.le_of_ble_eq_true rfl, Nat.le_of_ble_eq_true rfl⟩) (wy_preV 0 (hP.sub (ws' := [(xx, .inr (4, [.ref rd, .ref qa, .ref ho, .ref li, .int (nI cn), pr])), (qa, .inl (cP, 10, .inr (.inr (.inr (.inr pf)))))]) [0, 1] rfl) (hK.sub (tys' := [(cP, .object "PatternText$Pattern")]) [0] rfl) hN (ci := 4) rfl rfl rfl) rfl rfl hl.1 rfl (lv_room (Nat.le_of_ble_eq_true rfl)) d_Pa_print_2 ⟨Nat.le_of_ble_eq_true rfl, Nat.le_of_ble_eq_true rfl⟩).run (fun r_2 h_2 => ?_)
  subst h_2
  refine lv_astore_nN (lv' := [(2, .null), (0, .ref xx), (1, .int x)]) hx hb d_Pa_print_5 rfl hl (by decide) rfl (fun ls hl => ?_)
  refine lv_aload_nN hx hb d_Pa_print_6 rfl (lv_at hl 0 rfl) ?_
  refine lv_ifnonnullN hx hb d_Pa_print_7 ?_
  refine lv_iconst (v := 0) hx hb d_Pa_print_10 (by decide) ?_
  have q9 : (0 : Int32) = 0 := by rfl
  exact W.iret (v := 0) hx hb hr (fun t ht _ => ⟨_, rfl, q9, ht⟩) (fun _ h9 => by cases h9) d_Pa_print_11

set_option maxHeartbeats 4000000 in
set_option maxRecDepth 100000 in
theorem c_Pa_yearly_n (l : Launch) (dC : Nat → ClassId) (dI : Nat → Nat → Nat) (xx : Nat) (rd : Nat) (qa : Nat) (ho : Nat) (li : Nat) (cn : Nat) (pr : Value) (cP : ClassId) (pf : Nat → Option Nat) (x : Int32) (y : Int32) (z : Int32) (hc0 : cn ≤ 10) (hno : li_has cn x = false) : Met l y_Pa_yearly w_Pa_yearly ({ frames := 1, cells := 0, slots := 0, locals := 21 }) (va_Pc [.ref xx, .int x, .int y, .int z] (wy_R (dC, dI) ga_cl [(xx, .inr (4, [.ref rd, .ref qa, .ref ho, .ref li, .int (nI cn), pr])), (qa, .inl (cP, 10, .inr (.inr (.inr (.inr pf)))))] [(cP, .object "PatternText$Pattern")])) (vp_Si (fun r => r = (-1))) 0 0 (fun _ => False) := by
  refine Met.ofW (cc := b_Pa_yearly) (maxL := 5) (ret := (some .int)) (by decide) rfl ?_
  intro p e s m args below meth c s₁ B hml hv
  obtain ⟨rfl, hP, hK, hN⟩ := hv
  have hx := B.exec
  have hb := B.bytes
  have hr := B.returns
  have hts : ∀ w ∈ ga_tbl, w.before _ s = true := fun w h => atoms_spec (ws := w_Pa_yearly) B.pre w (List.mem_cons_of_mem _ h)
  have hown : s.vm.findClass "PatternText" = some m.cls := findClass_of_methodNamed B.named
  have hlocks := B.notSynchronized
  have hl := lv_entry ([.ref xx, .int x, .int y, .int z]) (n := 5) (Nat.le_of_ble_eq_true rfl)
  rw [lg_entry_eq]
  generalize (lg_sl ([.ref xx, .int x, .int y, .int z]) ++ List.replicate (5 - (lg_sl ([.ref xx, .int x, .int y, .int z])).length) Slot.unset).toArray = ls at hl ⊢
  have hl : lv_has ls 5 [(0, .ref xx), (1, .int x), (2, .int y), (3, .int z)] := hl
  refine lv_aload_n hx hb d_Pa_yearly_0 rfl (lv_at hl 0 rfl) ?_
  refine lv_iload_n hx hb d_Pa_yearly_1 rfl (lv_at hl 1 rfl) ?_
  refine va_csq (va_runV (As := [.int x]) (rest := []) ⟨hx, hb, hml, hown, hts⟩ (c_Pa_patternOf_n l dC dI xx rd qa ho li cn pr cP pf x (by omega) (hno)) (cwV 1 hts (ga_V kw_346 kw_348 kw_11 kw_34 (ga_in kw_349)) rfl rfl rfl (by decide +kernel) ⟨Nat.le_of_ble_eq_true rfl, Nat.le_of_ble_eq_true rfl⟩) (wy_preV 0 (hP.sub (ws' := [(xx, .inr (4, [.ref rd, .ref qa, .ref ho, .ref li, .int (nI cn), pr])), (qa, .inl (cP, 10, .inr (.inr (.inr (.inr pf)))))]) [0, 1] rfl) (hK.sub (tys' := [(cP, .object "PatternText$Pattern")]) [0] rfl) hN (ci := 4) rfl rfl rfl) rfl rfl hl.1 rfl (lv_room (Nat.le_of_ble_eq_true rfl)) d_Pa_yearly_2 ⟨Nat.le_of_ble_eq_true rfl, Nat.le_of_ble_eq_true rfl⟩).run (fun r_2 h_2 => ?_)
  subst h_2
  refine lv_astoreN (lv' := [(4, .null), (0, .ref xx), (1, .int x), (2, .int y), (3, .int z)]) hx hb d_Pa_yearly_5 hl (by decide) rfl (fun ls hl => ?_)
  refine lv_aloadN hx hb d_Pa_yearly_7 (lv_at hl 0 rfl) ?_
  refine lv_ifnullN (tgt := 19) hx hb d_Pa_yearly_9 (by decide) ?_
  refine lv_iconst (v := -1) hx hb d_Pa_yearly_19 (by decide) ?_
  have q9 : ((-1) : Int32) = (-1) := by rfl
  exact W.iret (v := (-1)) hx hb hr (fun t ht _ => ⟨_, rfl, q9, ht⟩) (fun _ h9 => by cases h9) d_Pa_yearly_20

set_option maxHeartbeats 4000000 in
set_option maxRecDepth 100000 in
theorem c_Pa_foretell_b (l : Launch) (dC : Nat → ClassId) (dI : Nat → Nat → Nat) (xx : Nat) (rd : Nat) (qa : Nat) (ho : Nat) (li : Nat) (cn : Nat) (pr : Value) (cP : ClassId) (pf : Nat → Option Nat) (pq : Nat) (pa : Nat) (y : Int32) (z : Int32) (hc0 : cn ≤ 10) (hk : pq < cn) (hpf : pf pq = some pa) (hb0 : (mo_rng z && mo_day y) = false) : Met l y_Pa_foretell w_Pa_foretell ({ frames := 1, cells := 0, slots := 0, locals := 21 }) (va_Pc [.ref xx, .int (nI pq), .int y, .int z] (wy_R (dC, dI) ga_cl [(xx, .inr (4, [.ref rd, .ref qa, .ref ho, .ref li, .int (nI cn), pr])), (qa, .inl (cP, 10, .inr (.inr (.inr (.inr pf)))))] [(cP, .object "PatternText$Pattern")])) (vp_Si (fun r => r = (-1))) 0 0 (fun _ => False) := by
  refine Met.ofW (cc := b_Pa_foretell) (maxL := 5) (ret := (some .int)) (by decide) rfl ?_
  intro p e s m args below meth c s₁ B hml hv
  obtain ⟨rfl, hP, hK, hN⟩ := hv
  have hx := B.exec
  have hb := B.bytes
  have hr := B.returns
  have hts : ∀ w ∈ ga_tbl, w.before _ s = true := fun w h => atoms_spec (ws := w_Pa_foretell) B.pre w (List.mem_cons_of_mem _ h)
  have hown : s.vm.findClass "PatternText" = some m.cls := findClass_of_methodNamed B.named
  have hlocks := B.notSynchronized
  have hl := lv_entry ([.ref xx, .int (nI pq), .int y, .int z]) (n := 5) (Nat.le_of_ble_eq_true rfl)
  rw [lg_entry_eq]
  generalize (lg_sl ([.ref xx, .int (nI pq), .int y, .int z]) ++ List.replicate (5 - (lg_sl ([.ref xx, .int (nI pq), .int y, .int z])).length) Slot.unset).toArray = ls at hl ⊢
  have hl : lv_has ls 5 [(0, .ref xx), (1, .int (nI pq)), (2, .int y), (3, .int z)] := hl
  refine lv_aload_n hx hb d_Pa_foretell_0 rfl (lv_at hl 0 rfl) ?_
  refine lv_iload_n hx hb d_Pa_foretell_1 rfl (lv_at hl 1 rfl) ?_
  refine va_csq (va_runV (As := [.int (nI pq)]) (rest := []) ⟨hx, hb, hml, hown, hts⟩ (c_Pa_patternOf_s l dC dI xx rd qa ho li cn pr cP pf pq pa (by omega) (hk) (hpf)) (cwV 1 hts (ga_V kw_346 kw_348 kw_11 kw_34 (ga_in kw_349)) rfl rfl rfl (by decide +kernel) ⟨Nat.le_of_ble_eq_true rfl, Nat.le_of_ble_eq_true rfl⟩) (wy_preV 0 (hP.sub (ws' := [(xx, .inr (4, [.ref rd, .ref qa, .ref ho, .ref li, .int (nI cn), pr])), (qa, .inl (cP, 10, .inr (.inr (.inr (.inr pf)))))]) [0, 1] rfl) (hK.sub (tys' := [(cP, .object "PatternText$Pattern")]) [0] rfl) hN (ci := 4) rfl rfl rfl) rfl rfl hl.1 rfl (lv_room (Nat.le_of_ble_eq_true rfl)) d_Pa_foretell_2 ⟨Nat.le_of_ble_eq_true rfl, Nat.le_of_ble_eq_true rfl⟩).run (fun r_2 h_2 => ?_)
  subst h_2
  refine lv_astore (lv' := [(4, .ref pa), (0, .ref xx), (1, .int (nI pq)), (2, .int y), (3, .int z)]) hx hb d_Pa_foretell_5 hl (by decide) rfl (fun ls hl => ?_)
  refine lv_aload hx hb d_Pa_foretell_7 (lv_at hl 0 rfl) ?_
  refine lv_ifnull hx hb d_Pa_foretell_9 ?_
  refine lv_iload_n hx hb d_Pa_foretell_12 rfl (lv_at hl 3 rfl) ?_
  refine vp_callSi (va_runS (As := [.int y]) (rest := []) ⟨hx, hb, hml, hown, hts⟩ (c_Pa_isDay l dC dI y ) (cwS 1 hts (ga_S kw_350 kw_351 kw_34 (ga_in kw_352)) rfl rfl rfl (by decide +kernel) ⟨Nat.le_of_ble_eq_true rfl, Nat.le_of_ble_eq_true rfl⟩) (wy_preS (hP.sub (ws' := []) [] rfl) (hK.sub (tys' := []) [] rfl) hN) rfl rfl hl.1 rfl (lv_room (Nat.le_of_ble_eq_true rfl)) d_Pa_foretell_13 ⟨Nat.le_of_ble_eq_true rfl, Nat.le_of_ble_eq_true rfl⟩).run (fun r_13 h_13 => ?_)
  subst h_13
  refine wy_ifeqB (tgt := 30) hx hb d_Pa_foretell_16 (by decide) (fun c_16 => ?_) (fun c_16 => ?_)
  · refine lv_iconst (v := -1) hx hb d_Pa_foretell_30 (by decide) ?_
    have q9 : ((-1) : Int32) = (-1) := by rfl
    exact W.iret (v := (-1)) hx hb hr (fun t ht _ => ⟨_, rfl, q9, ht⟩) (fun _ h9 => by cases h9) d_Pa_foretell_31
  · refine lv_iload_n hx hb d_Pa_foretell_19 rfl (lv_at hl 4 rfl) ?_
    refine lv_iconst (v := 1) hx hb d_Pa_foretell_20 (by decide) ?_
    refine lv_icmp_lt (tgt := 30) hx hb d_Pa_foretell_21 (by decide) (fun c_21 => ?_) (fun c_21 => ?_)
    · refine lv_iconst (v := -1) hx hb d_Pa_foretell_30 (by decide) ?_
      have q9 : ((-1) : Int32) = (-1) := by rfl
      exact W.iret (v := (-1)) hx hb hr (fun t ht _ => ⟨_, rfl, q9, ht⟩) (fun _ h9 => by cases h9) d_Pa_foretell_31
    · refine lv_iload_n hx hb d_Pa_foretell_24 rfl (lv_at hl 4 rfl) ?_
      refine lv_bipush (v := 100) hx hb d_Pa_foretell_25 (by decide) ?_
      refine lv_icmp_le (tgt := 32) hx hb d_Pa_foretell_27 (by decide) (fun c_27 => ?_) (fun c_27 => ?_)
      · exact absurd (show (mo_rng z && mo_day y) = true by rw [c_16, Bool.and_true]; simp only [mo_rng, Bool.and_eq_true, decide_eq_true_eq]; exact ⟨Int32.not_lt.mp c_21, c_27⟩) (by rw [hb0]; decide)
      · refine lv_iconst (v := -1) hx hb d_Pa_foretell_30 (by decide) ?_
        have q9 : ((-1) : Int32) = (-1) := by rfl
        exact W.iret (v := (-1)) hx hb hr (fun t ht _ => ⟨_, rfl, q9, ht⟩) (fun _ h9 => by cases h9) d_Pa_foretell_31

set_option maxHeartbeats 4000000 in
set_option maxRecDepth 100000 in
theorem c_Pa_changed_b (l : Launch) (dC : Nat → ClassId) (dI : Nat → Nat → Nat) (xx : Nat) (rd : Nat) (qa : Nat) (ho : Nat) (li : Nat) (cn : Nat) (pr : Value) (cP : ClassId) (pf : Nat → Option Nat) (pq : Nat) (pa : Nat) (y : Int32) (hc0 : cn ≤ 10) (hk : pq < cn) (hpf : pf pq = some pa) (hb0 : mo_day y = false) : Met l y_Pa_changed w_Pa_changed ({ frames := 1, cells := 0, slots := 0, locals := 21 }) (va_Pc [.ref xx, .int (nI pq), .int y] (wy_R (dC, dI) ga_cl [(xx, .inr (4, [.ref rd, .ref qa, .ref ho, .ref li, .int (nI cn), pr])), (qa, .inl (cP, 10, .inr (.inr (.inr (.inr pf)))))] [(cP, .object "PatternText$Pattern")])) (vp_Si (fun r => r = (-1))) 0 0 (fun _ => False) := by
  refine Met.ofW (cc := b_Pa_changed) (maxL := 6) (ret := (some .int)) (by decide) rfl ?_
  intro p e s m args below meth c s₁ B hml hv
  obtain ⟨rfl, hP, hK, hN⟩ := hv
  have hx := B.exec
  have hb := B.bytes
  have hr := B.returns
  have hts : ∀ w ∈ ga_tbl, w.before _ s = true := fun w h => atoms_spec (ws := w_Pa_changed) B.pre w (List.mem_cons_of_mem _ h)
  have hown : s.vm.findClass "PatternText" = some m.cls := findClass_of_methodNamed B.named
  have hlocks := B.notSynchronized
  have hl := lv_entry ([.ref xx, .int (nI pq), .int y]) (n := 6) (Nat.le_of_ble_eq_true rfl)
  rw [lg_entry_eq]
  generalize (lg_sl ([.ref xx, .int (nI pq), .int y]) ++ List.replicate (6 - (lg_sl ([.ref xx, .int (nI pq), .int y])).length) Slot.unset).toArray = ls at hl ⊢
  have hl : lv_has ls 6 [(0, .ref xx), (1, .int (nI pq)), (2, .int y)] := hl
  refine lv_aload_n hx hb d_Pa_changed_0 rfl (lv_at hl 0 rfl) ?_
  refine lv_iload_n hx hb d_Pa_changed_1 rfl (lv_at hl 1 rfl) ?_
  refine va_csq (va_runV (As := [.int (nI pq)]) (rest := []) ⟨hx, hb, hml, hown, hts⟩ (c_Pa_patternOf_s l dC dI xx rd qa ho li cn pr cP pf pq pa (by omega) (hk) (hpf)) (cwV 1 hts (ga_V kw_346 kw_348 kw_11 kw_34 (ga_in kw_349)) rfl rfl rfl (by decide +kernel) ⟨Nat.le_of_ble_eq_true rfl, Nat.le_of_ble_eq_true rfl⟩) (wy_preV 0 (hP.sub (ws' := [(xx, .inr (4, [.ref rd, .ref qa, .ref ho, .ref li, .int (nI cn), pr])), (qa, .inl (cP, 10, .inr (.inr (.inr (.inr pf)))))]) [0, 1] rfl) (hK.sub (tys' := [(cP, .object "PatternText$Pattern")]) [0] rfl) hN (ci := 4) rfl rfl rfl) rfl rfl hl.1 rfl (lv_room (Nat.le_of_ble_eq_true rfl)) d_Pa_changed_2 ⟨Nat.le_of_ble_eq_true rfl, Nat.le_of_ble_eq_true rfl⟩).run (fun r_2 h_2 => ?_)
  subst h_2
  refine lv_astore_n (lv' := [(3, .ref pa), (0, .ref xx), (1, .int (nI pq)), (2, .int y)]) hx hb d_Pa_changed_5 rfl hl (by decide) rfl (fun ls hl => ?_)
  refine lv_aload_n hx hb d_Pa_changed_6 rfl (lv_at hl 0 rfl) ?_
  refine lv_ifnull hx hb d_Pa_changed_7 ?_
  refine lv_iload_n hx hb d_Pa_changed_10 rfl (lv_at hl 3 rfl) ?_
  refine vp_callSi (va_runS (As := [.int y]) (rest := []) ⟨hx, hb, hml, hown, hts⟩ (c_Pa_isDay l dC dI y ) (cwS 1 hts (ga_S kw_350 kw_351 kw_34 (ga_in kw_352)) rfl rfl rfl (by decide +kernel) ⟨Nat.le_of_ble_eq_true rfl, Nat.le_of_ble_eq_true rfl⟩) (wy_preS (hP.sub (ws' := []) [] rfl) (hK.sub (tys' := []) [] rfl) hN) rfl rfl hl.1 rfl (lv_room (Nat.le_of_ble_eq_true rfl)) d_Pa_changed_11 ⟨Nat.le_of_ble_eq_true rfl, Nat.le_of_ble_eq_true rfl⟩).run (fun r_11 h_11 => ?_)
  subst h_11
  refine wy_ifneB (tgt := 19) hx hb d_Pa_changed_14 (by decide) (fun c_14 => ?_) (fun c_14 => ?_)
  · rw [hb0] at c_14; cases c_14
  · refine lv_iconst (v := -1) hx hb d_Pa_changed_17 (by decide) ?_
    have q9 : ((-1) : Int32) = (-1) := by rfl
    exact W.iret (v := (-1)) hx hb hr (fun t ht _ => ⟨_, rfl, q9, ht⟩) (fun _ h9 => by cases h9) d_Pa_changed_18

set_option maxHeartbeats 4000000 in
set_option maxRecDepth 100000 in
theorem c_Pa_yearly_b (l : Launch) (dC : Nat → ClassId) (dI : Nat → Nat → Nat) (xx : Nat) (rd : Nat) (qa : Nat) (ho : Nat) (li : Nat) (cn : Nat) (pr : Value) (cP : ClassId) (pf : Nat → Option Nat) (pq : Nat) (pa : Nat) (y : Int32) (z : Int32) (hc0 : cn ≤ 10) (hk : pq < cn) (hpf : pf pq = some pa) (hb0 : mo_day y = false) : Met l y_Pa_yearly w_Pa_yearly ({ frames := 1, cells := 0, slots := 0, locals := 21 }) (va_Pc [.ref xx, .int (nI pq), .int y, .int z] (wy_R (dC, dI) ga_cl [(xx, .inr (4, [.ref rd, .ref qa, .ref ho, .ref li, .int (nI cn), pr])), (qa, .inl (cP, 10, .inr (.inr (.inr (.inr pf)))))] [(cP, .object "PatternText$Pattern")])) (vp_Si (fun r => r = (-1))) 0 0 (fun _ => False) := by
  refine Met.ofW (cc := b_Pa_yearly) (maxL := 5) (ret := (some .int)) (by decide) rfl ?_
  intro p e s m args below meth c s₁ B hml hv
  obtain ⟨rfl, hP, hK, hN⟩ := hv
  have hx := B.exec
  have hb := B.bytes
  have hr := B.returns
  have hts : ∀ w ∈ ga_tbl, w.before _ s = true := fun w h => atoms_spec (ws := w_Pa_yearly) B.pre w (List.mem_cons_of_mem _ h)
  have hown : s.vm.findClass "PatternText" = some m.cls := findClass_of_methodNamed B.named
  have hlocks := B.notSynchronized
  have hl := lv_entry ([.ref xx, .int (nI pq), .int y, .int z]) (n := 5) (Nat.le_of_ble_eq_true rfl)
  rw [lg_entry_eq]
  generalize (lg_sl ([.ref xx, .int (nI pq), .int y, .int z]) ++ List.replicate (5 - (lg_sl ([.ref xx, .int (nI pq), .int y, .int z])).length) Slot.unset).toArray = ls at hl ⊢
  have hl : lv_has ls 5 [(0, .ref xx), (1, .int (nI pq)), (2, .int y), (3, .int z)] := hl
  refine lv_aload_n hx hb d_Pa_yearly_0 rfl (lv_at hl 0 rfl) ?_
  refine lv_iload_n hx hb d_Pa_yearly_1 rfl (lv_at hl 1 rfl) ?_
  refine va_csq (va_runV (As := [.int (nI pq)]) (rest := []) ⟨hx, hb, hml, hown, hts⟩ (c_Pa_patternOf_s l dC dI xx rd qa ho li cn pr cP pf pq pa (by omega) (hk) (hpf)) (cwV 1 hts (ga_V kw_346 kw_348 kw_11 kw_34 (ga_in kw_349)) rfl rfl rfl (by decide +kernel) ⟨Nat.le_of_ble_eq_true rfl, Nat.le_of_ble_eq_true rfl⟩) (wy_preV 0 (hP.sub (ws' := [(xx, .inr (4, [.ref rd, .ref qa, .ref ho, .ref li, .int (nI cn), pr])), (qa, .inl (cP, 10, .inr (.inr (.inr (.inr pf)))))]) [0, 1] rfl) (hK.sub (tys' := [(cP, .object "PatternText$Pattern")]) [0] rfl) hN (ci := 4) rfl rfl rfl) rfl rfl hl.1 rfl (lv_room (Nat.le_of_ble_eq_true rfl)) d_Pa_yearly_2 ⟨Nat.le_of_ble_eq_true rfl, Nat.le_of_ble_eq_true rfl⟩).run (fun r_2 h_2 => ?_)
  subst h_2
  refine lv_astore (lv' := [(4, .ref pa), (0, .ref xx), (1, .int (nI pq)), (2, .int y), (3, .int z)]) hx hb d_Pa_yearly_5 hl (by decide) rfl (fun ls hl => ?_)
  refine lv_aload hx hb d_Pa_yearly_7 (lv_at hl 0 rfl) ?_
  refine lv_ifnull hx hb d_Pa_yearly_9 ?_
  refine lv_iload_n hx hb d_Pa_yearly_12 rfl (lv_at hl 3 rfl) ?_
  refine vp_callSi (va_runS (As := [.int y]) (rest := []) ⟨hx, hb, hml, hown, hts⟩ (c_Pa_isDay l dC dI y ) (cwS 1 hts (ga_S kw_350 kw_351 kw_34 (ga_in kw_352)) rfl rfl rfl (by decide +kernel) ⟨Nat.le_of_ble_eq_true rfl, Nat.le_of_ble_eq_true rfl⟩) (wy_preS (hP.sub (ws' := []) [] rfl) (hK.sub (tys' := []) [] rfl) hN) rfl rfl hl.1 rfl (lv_room (Nat.le_of_ble_eq_true rfl)) d_Pa_yearly_13 ⟨Nat.le_of_ble_eq_true rfl, Nat.le_of_ble_eq_true rfl⟩).run (fun r_13 h_13 => ?_)
  subst h_13
  refine wy_ifneB (tgt := 21) hx hb d_Pa_yearly_16 (by decide) (fun c_16 => ?_) (fun c_16 => ?_)
  · rw [hb0] at c_16; cases c_16
  · refine lv_iconst (v := -1) hx hb d_Pa_yearly_19 (by decide) ?_
    have q9 : ((-1) : Int32) = (-1) := by rfl
    exact W.iret (v := (-1)) hx hb hr (fun t ht _ => ⟨_, rfl, q9, ht⟩) (fun _ h9 => by cases h9) d_Pa_yearly_20

set_option maxHeartbeats 4000000 in
set_option maxRecDepth 100000 in
theorem c_Pa_foretell_s (l : Launch) (dC : Nat → ClassId) (dI : Nat → Nat → Nat) (sz : Nat) (xx : Nat) (rd : Nat) (qa : Nat) (ho : Nat) (li : Nat) (cn : Nat) (pr : Value) (cP : ClassId) (pf : Nat → Option Nat) (pq : Nat) (pa : Nat) (a0 : Nat) (a1 : Nat) (a2 : Nat) (a3 : Nat) (a4 : Nat) (a5 : Nat) (a6 : Nat) (a7 : Nat) (a8 : Nat) (ns : Nat) (cI : ClassId) (fs : Nat → Int32) (fe : Nat → Int32) (fl : Nat → Int32) (fn : Nat → Int32) (ft : Nat → Int32) (f2 : Nat → Int32) (fv : Nat → Int32) (fp : Nat → Int32) (fc : Nat → Int32) (ps : Nat) (pk : Nat) (sd : Nat) (mo : Int32) (jo : Nat) (vo : Nat) (re : Bool) (ha : Nat) (hd : Nat → Int32) (hc : Nat) (dy : Nat) (nn : Nat) (hc0 : cn ≤ 10) (hk : pq < cn) (hpf : pf pq = some pa) (hn : ns ≤ 100) (hdy : dy ≤ 1000000) (hsd : sd ≤ 2970) (hjo : jo ≤ 99) (hvo : vo ≤ 99) (hh : hc ≤ 60) (hn1 : 1 ≤ nn) (hn2 : nn ≤ 100) : Met l y_Pa_foretell w_Pa_foretell ({ frames := 3, cells := 0, slots := 0, locals := 75 }) (va_Pc [.ref xx, .int (nI pq), .int (nI dy), .int (nI nn)] (wy_M (dC, dI) ga_cl [(xx, .inr (4, [.ref rd, .ref qa, .ref ho, .ref li, .int (nI cn), pr])), (qa, .inl (cP, 10, .inr (.inr (.inr (.inr pf))))), (li, .inr (1, [.ref a0, .ref a1, .ref a2, .ref a3, .ref a4, .ref a5, .ref a6, .ref a7, .ref a8, .int (nI ns)])), (a0, .inl (cI, 100, .inl fs)), (a1, .inl (cI, 100, .inl fe)), (a2, .inl (cI, 100, .inl fl)), (a3, .inl (cI, 100, .inl fn)), (a4, .inl (cI, 100, .inl ft)), (a5, .inl (cI, 100, .inl f2)), (a6, .inl (cI, 100, .inl fv)), (a7, .inl (cI, 100, .inl fp)), (a8, .inl (cI, 100, .inl fc)), (pa, .inr (2, [.int (nI pk), .ref ps, .int (nI sd), .int mo, .int (nI jo), .int (nI vo), .int (bo_I re)])), (ho, .inr (0, [.ref ha, .int (nI hc)])), (ha, .inl (cI, 60, .inl hd))] [(cI, .int), (cP, .object "PatternText$Pattern")] sz)) (va_Qi (fun (r : Int32) (_ : Unit) => r = nI (li_go pk sd mo jo vo re hd hc nn 1 dy 0 (0, fs, fe, fl, fn, ft, f2, fv, fp, fc)).1) (fun _ => wy_N (dC, dI) ga_cl [(cI, .int), (cP, .object "PatternText$Pattern")] (va_A [(xx, .inr (4, [.ref rd, .ref qa, .ref ho, .ref li, .int (nI cn), pr])), (qa, .inl (cP, 10, .inr (.inr (.inr (.inr pf))))), (li, .inr (1, [.ref a0, .ref a1, .ref a2, .ref a3, .ref a4, .ref a5, .ref a6, .ref a7, .ref a8, .int (nI ns)])), (a0, .inl (cI, 100, .inl fs)), (a1, .inl (cI, 100, .inl fe)), (a2, .inl (cI, 100, .inl fl)), (a3, .inl (cI, 100, .inl fn)), (a4, .inl (cI, 100, .inl ft)), (a5, .inl (cI, 100, .inl f2)), (a6, .inl (cI, 100, .inl fv)), (a7, .inl (cI, 100, .inl fp)), (a8, .inl (cI, 100, .inl fc)), (pa, .inr (2, [.int (nI pk), .ref ps, .int (nI sd), .int mo, .int (nI jo), .int (nI vo), .int (bo_I re)])), (ho, .inr (0, [.ref ha, .int (nI hc)])), (ha, .inl (cI, 60, .inl hd))] sz) [(xx, .inr (4, [.ref rd, .ref qa, .ref ho, .ref li, .int (nI cn), pr])), (qa, .inl (cP, 10, .inr (.inr (.inr (.inr pf))))), (li, .inr (1, [.ref a0, .ref a1, .ref a2, .ref a3, .ref a4, .ref a5, .ref a6, .ref a7, .ref a8, .int (nI ((li_go pk sd mo jo vo re hd hc nn 1 dy 0 (0, fs, fe, fl, fn, ft, f2, fv, fp, fc)).1))])), (a0, .inl (cI, 100, .inl ((li_go pk sd mo jo vo re hd hc nn 1 dy 0 (0, fs, fe, fl, fn, ft, f2, fv, fp, fc)).2.1))), (a1, .inl (cI, 100, .inl ((li_go pk sd mo jo vo re hd hc nn 1 dy 0 (0, fs, fe, fl, fn, ft, f2, fv, fp, fc)).2.2.1))), (a2, .inl (cI, 100, .inl ((li_go pk sd mo jo vo re hd hc nn 1 dy 0 (0, fs, fe, fl, fn, ft, f2, fv, fp, fc)).2.2.2.1))), (a3, .inl (cI, 100, .inl ((li_go pk sd mo jo vo re hd hc nn 1 dy 0 (0, fs, fe, fl, fn, ft, f2, fv, fp, fc)).2.2.2.2.1))), (a4, .inl (cI, 100, .inl ((li_go pk sd mo jo vo re hd hc nn 1 dy 0 (0, fs, fe, fl, fn, ft, f2, fv, fp, fc)).2.2.2.2.2.1))), (a5, .inl (cI, 100, .inl ((li_go pk sd mo jo vo re hd hc nn 1 dy 0 (0, fs, fe, fl, fn, ft, f2, fv, fp, fc)).2.2.2.2.2.2.1))), (a6, .inl (cI, 100, .inl ((li_go pk sd mo jo vo re hd hc nn 1 dy 0 (0, fs, fe, fl, fn, ft, f2, fv, fp, fc)).2.2.2.2.2.2.2.1))), (a7, .inl (cI, 100, .inl ((li_go pk sd mo jo vo re hd hc nn 1 dy 0 (0, fs, fe, fl, fn, ft, f2, fv, fp, fc)).2.2.2.2.2.2.2.2.1))), (a8, .inl (cI, 100, .inl ((li_go pk sd mo jo vo re hd hc nn 1 dy 0 (0, fs, fe, fl, fn, ft, f2, fv, fp, fc)).2.2.2.2.2.2.2.2.2))), (pa, .inr (2, [.int (nI pk), .ref ps, .int (nI sd), .int mo, .int (nI jo), .int (nI vo), .int (bo_I re)])), (ho, .inr (0, [.ref ha, .int (nI hc)])), (ha, .inl (cI, 60, .inl hd))]) (va_A [(xx, .inr (4, [.ref rd, .ref qa, .ref ho, .ref li, .int (nI cn), pr])), (qa, .inl (cP, 10, .inr (.inr (.inr (.inr pf))))), (li, .inr (1, [.ref a0, .ref a1, .ref a2, .ref a3, .ref a4, .ref a5, .ref a6, .ref a7, .ref a8, .int (nI ns)])), (a0, .inl (cI, 100, .inl fs)), (a1, .inl (cI, 100, .inl fe)), (a2, .inl (cI, 100, .inl fl)), (a3, .inl (cI, 100, .inl fn)), (a4, .inl (cI, 100, .inl ft)), (a5, .inl (cI, 100, .inl f2)), (a6, .inl (cI, 100, .inl fv)), (a7, .inl (cI, 100, .inl fp)), (a8, .inl (cI, 100, .inl fc)), (pa, .inr (2, [.int (nI pk), .ref ps, .int (nI sd), .int mo, .int (nI jo), .int (nI vo), .int (bo_I re)])), (ho, .inr (0, [.ref ha, .int (nI hc)])), (ha, .inl (cI, 60, .inl hd))] sz)) 0 0 (va_A [(xx, .inr (4, [.ref rd, .ref qa, .ref ho, .ref li, .int (nI cn), pr])), (qa, .inl (cP, 10, .inr (.inr (.inr (.inr pf))))), (li, .inr (1, [.ref a0, .ref a1, .ref a2, .ref a3, .ref a4, .ref a5, .ref a6, .ref a7, .ref a8, .int (nI ns)])), (a0, .inl (cI, 100, .inl fs)), (a1, .inl (cI, 100, .inl fe)), (a2, .inl (cI, 100, .inl fl)), (a3, .inl (cI, 100, .inl fn)), (a4, .inl (cI, 100, .inl ft)), (a5, .inl (cI, 100, .inl f2)), (a6, .inl (cI, 100, .inl fv)), (a7, .inl (cI, 100, .inl fp)), (a8, .inl (cI, 100, .inl fc)), (pa, .inr (2, [.int (nI pk), .ref ps, .int (nI sd), .int mo, .int (nI jo), .int (nI vo), .int (bo_I re)])), (ho, .inr (0, [.ref ha, .int (nI hc)])), (ha, .inl (cI, 60, .inl hd))] sz) := by
  refine Met.ofW (cc := b_Pa_foretell) (maxL := 5) (ret := (some .int)) (by decide) rfl ?_
  intro p e s m args below meth c s₁ B hml hv
  obtain ⟨rfl, hsz, hP, hK, hN, hD0⟩ := hv
  have hx := B.exec
  have hb := B.bytes
  have hr := B.returns
  have hts : ∀ w ∈ ga_tbl, w.before _ s = true := fun w h => atoms_spec (ws := w_Pa_foretell) B.pre w (List.mem_cons_of_mem _ h)
  have hown : s.vm.findClass "PatternText" = some m.cls := findClass_of_methodNamed B.named
  have hlocks := B.notSynchronized
  subst hsz
  have hD := hD0.self (sz := s.heap.size)
  generalize hAe : va_A [(xx, .inr (4, [.ref rd, .ref qa, .ref ho, .ref li, .int (nI cn), pr])), (qa, .inl (cP, 10, .inr (.inr (.inr (.inr pf))))), (li, .inr (1, [.ref a0, .ref a1, .ref a2, .ref a3, .ref a4, .ref a5, .ref a6, .ref a7, .ref a8, .int (nI ns)])), (a0, .inl (cI, 100, .inl fs)), (a1, .inl (cI, 100, .inl fe)), (a2, .inl (cI, 100, .inl fl)), (a3, .inl (cI, 100, .inl fn)), (a4, .inl (cI, 100, .inl ft)), (a5, .inl (cI, 100, .inl f2)), (a6, .inl (cI, 100, .inl fv)), (a7, .inl (cI, 100, .inl fp)), (a8, .inl (cI, 100, .inl fc)), (pa, .inr (2, [.int (nI pk), .ref ps, .int (nI sd), .int mo, .int (nI jo), .int (nI vo), .int (bo_I re)])), (ho, .inr (0, [.ref ha, .int (nI hc)])), (ha, .inl (cI, 60, .inl hd))] s.heap.size = A at hD ⊢
  have hA : ∀ q : Nat, s.heap.size ≤ q → A q := fun q h => by rw [← hAe]; exact Or.inr h
  have hS : va_S A s.heap s.heap [] := va_S.rf
  have hl := lv_entry ([.ref xx, .int (nI pq), .int (nI dy), .int (nI nn)]) (n := 5) (Nat.le_of_ble_eq_true rfl)
  rw [lg_entry_eq]
  generalize (lg_sl ([.ref xx, .int (nI pq), .int (nI dy), .int (nI nn)]) ++ List.replicate (5 - (lg_sl ([.ref xx, .int (nI pq), .int (nI dy), .int (nI nn)])).length) Slot.unset).toArray = ls at hl ⊢
  have hl : lv_has ls 5 [(0, .ref xx), (1, .int (nI pq)), (2, .int (nI dy)), (3, .int (nI nn))] := hl
  obtain ⟨Q0, hQ⟩ : ∃ Q0 : State → Prop, Q0 = MQ below (va_Qi (fun (r : Int32) (_ : Unit) => r = nI (li_go pk sd mo jo vo re hd hc nn 1 dy 0 (0, fs, fe, fl, fn, ft, f2, fv, fp, fc)).1) (fun _ => wy_N (dC, dI) ga_cl [(cI, .int), (cP, .object "PatternText$Pattern")] A [(xx, .inr (4, [.ref rd, .ref qa, .ref ho, .ref li, .int (nI cn), pr])), (qa, .inl (cP, 10, .inr (.inr (.inr (.inr pf))))), (li, .inr (1, [.ref a0, .ref a1, .ref a2, .ref a3, .ref a4, .ref a5, .ref a6, .ref a7, .ref a8, .int (nI ((li_go pk sd mo jo vo re hd hc nn 1 dy 0 (0, fs, fe, fl, fn, ft, f2, fv, fp, fc)).1))])), (a0, .inl (cI, 100, .inl ((li_go pk sd mo jo vo re hd hc nn 1 dy 0 (0, fs, fe, fl, fn, ft, f2, fv, fp, fc)).2.1))), (a1, .inl (cI, 100, .inl ((li_go pk sd mo jo vo re hd hc nn 1 dy 0 (0, fs, fe, fl, fn, ft, f2, fv, fp, fc)).2.2.1))), (a2, .inl (cI, 100, .inl ((li_go pk sd mo jo vo re hd hc nn 1 dy 0 (0, fs, fe, fl, fn, ft, f2, fv, fp, fc)).2.2.2.1))), (a3, .inl (cI, 100, .inl ((li_go pk sd mo jo vo re hd hc nn 1 dy 0 (0, fs, fe, fl, fn, ft, f2, fv, fp, fc)).2.2.2.2.1))), (a4, .inl (cI, 100, .inl ((li_go pk sd mo jo vo re hd hc nn 1 dy 0 (0, fs, fe, fl, fn, ft, f2, fv, fp, fc)).2.2.2.2.2.1))), (a5, .inl (cI, 100, .inl ((li_go pk sd mo jo vo re hd hc nn 1 dy 0 (0, fs, fe, fl, fn, ft, f2, fv, fp, fc)).2.2.2.2.2.2.1))), (a6, .inl (cI, 100, .inl ((li_go pk sd mo jo vo re hd hc nn 1 dy 0 (0, fs, fe, fl, fn, ft, f2, fv, fp, fc)).2.2.2.2.2.2.2.1))), (a7, .inl (cI, 100, .inl ((li_go pk sd mo jo vo re hd hc nn 1 dy 0 (0, fs, fe, fl, fn, ft, f2, fv, fp, fc)).2.2.2.2.2.2.2.2.1))), (a8, .inl (cI, 100, .inl ((li_go pk sd mo jo vo re hd hc nn 1 dy 0 (0, fs, fe, fl, fn, ft, f2, fv, fp, fc)).2.2.2.2.2.2.2.2.2))), (pa, .inr (2, [.int (nI pk), .ref ps, .int (nI sd), .int mo, .int (nI jo), .int (nI vo), .int (bo_I re)])), (ho, .inr (0, [.ref ha, .int (nI hc)])), (ha, .inl (cI, 60, .inl hd))]) A) ([.ref xx, .int (nI pq), .int (nI dy), .int (nI nn)] : List Value).toArray s 0 0 A := ⟨_, rfl⟩
  show W p l e ({ frames := 3, cells := 0, slots := 0, locals := 75 }) s m ([.ref xx, .int (nI pq), .int (nI dy), .int (nI nn)] : List Value).toArray below meth c s.heap [] 0 0 (MQ below (va_Qi (fun (r : Int32) (_ : Unit) => r = nI (li_go pk sd mo jo vo re hd hc nn 1 dy 0 (0, fs, fe, fl, fn, ft, f2, fv, fp, fc)).1) (fun _ => wy_N (dC, dI) ga_cl [(cI, .int), (cP, .object "PatternText$Pattern")] A [(xx, .inr (4, [.ref rd, .ref qa, .ref ho, .ref li, .int (nI cn), pr])), (qa, .inl (cP, 10, .inr (.inr (.inr (.inr pf))))), (li, .inr (1, [.ref a0, .ref a1, .ref a2, .ref a3, .ref a4, .ref a5, .ref a6, .ref a7, .ref a8, .int (nI ((li_go pk sd mo jo vo re hd hc nn 1 dy 0 (0, fs, fe, fl, fn, ft, f2, fv, fp, fc)).1))])), (a0, .inl (cI, 100, .inl ((li_go pk sd mo jo vo re hd hc nn 1 dy 0 (0, fs, fe, fl, fn, ft, f2, fv, fp, fc)).2.1))), (a1, .inl (cI, 100, .inl ((li_go pk sd mo jo vo re hd hc nn 1 dy 0 (0, fs, fe, fl, fn, ft, f2, fv, fp, fc)).2.2.1))), (a2, .inl (cI, 100, .inl ((li_go pk sd mo jo vo re hd hc nn 1 dy 0 (0, fs, fe, fl, fn, ft, f2, fv, fp, fc)).2.2.2.1))), (a3, .inl (cI, 100, .inl ((li_go pk sd mo jo vo re hd hc nn 1 dy 0 (0, fs, fe, fl, fn, ft, f2, fv, fp, fc)).2.2.2.2.1))), (a4, .inl (cI, 100, .inl ((li_go pk sd mo jo vo re hd hc nn 1 dy 0 (0, fs, fe, fl, fn, ft, f2, fv, fp, fc)).2.2.2.2.2.1))), (a5, .inl (cI, 100, .inl ((li_go pk sd mo jo vo re hd hc nn 1 dy 0 (0, fs, fe, fl, fn, ft, f2, fv, fp, fc)).2.2.2.2.2.2.1))), (a6, .inl (cI, 100, .inl ((li_go pk sd mo jo vo re hd hc nn 1 dy 0 (0, fs, fe, fl, fn, ft, f2, fv, fp, fc)).2.2.2.2.2.2.2.1))), (a7, .inl (cI, 100, .inl ((li_go pk sd mo jo vo re hd hc nn 1 dy 0 (0, fs, fe, fl, fn, ft, f2, fv, fp, fc)).2.2.2.2.2.2.2.2.1))), (a8, .inl (cI, 100, .inl ((li_go pk sd mo jo vo re hd hc nn 1 dy 0 (0, fs, fe, fl, fn, ft, f2, fv, fp, fc)).2.2.2.2.2.2.2.2.2))), (pa, .inr (2, [.int (nI pk), .ref ps, .int (nI sd), .int mo, .int (nI jo), .int (nI vo), .int (bo_I re)])), (ho, .inr (0, [.ref ha, .int (nI hc)])), (ha, .inl (cI, 60, .inl hd))]) A) ([.ref xx, .int (nI pq), .int (nI dy), .int (nI nn)] : List Value).toArray s 0 0 A) (F0 m 0 ls [])
  rw [← hQ]
  have hday : mo_day (nI dy) = true := by rw [mo_day_nI (by omega), decide_eq_true hdy]
  refine lv_aload_n hx hb d_Pa_foretell_0 rfl (lv_at hl 0 rfl) ?_
  refine lv_iload_n hx hb d_Pa_foretell_1 rfl (lv_at hl 1 rfl) ?_
  refine va_csq (va_runV (As := [.int (nI pq)]) (rest := []) ⟨hx, hb, hml, hown, hts⟩ (c_Pa_patternOf_s l dC dI xx rd qa ho li cn pr cP pf pq pa (by omega) (hk) (hpf)) (cwV 1 hts (ga_V kw_346 kw_348 kw_11 kw_34 (ga_in kw_349)) rfl rfl rfl (by decide +kernel) ⟨Nat.le_of_ble_eq_true rfl, Nat.le_of_ble_eq_true rfl⟩) (wy_preV 0 (hP.sub (ws' := [(xx, .inr (4, [.ref rd, .ref qa, .ref ho, .ref li, .int (nI cn), pr])), (qa, .inl (cP, 10, .inr (.inr (.inr (.inr pf)))))]) [0, 1] rfl) (hK.sub (tys' := [(cP, .object "PatternText$Pattern")]) [1] rfl) hN (ci := 4) rfl rfl rfl) rfl rfl hl.1 rfl (lv_room (Nat.le_of_ble_eq_true rfl)) d_Pa_foretell_2 ⟨Nat.le_of_ble_eq_true rfl, Nat.le_of_ble_eq_true rfl⟩).run (fun r_2 h_2 => ?_)
  subst h_2
  refine lv_astore (lv' := [(4, .ref pa), (0, .ref xx), (1, .int (nI pq)), (2, .int (nI dy)), (3, .int (nI nn))]) hx hb d_Pa_foretell_5 hl (by decide) rfl (fun ls hl => ?_)
  refine lv_aload hx hb d_Pa_foretell_7 (lv_at hl 0 rfl) ?_
  refine lv_ifnull hx hb d_Pa_foretell_9 ?_
  refine lv_iload_n hx hb d_Pa_foretell_12 rfl (lv_at hl 3 rfl) ?_
  refine vp_callSi (va_runS (As := [.int (nI dy)]) (rest := []) ⟨hx, hb, hml, hown, hts⟩ (c_Pa_isDay l dC dI (nI dy) ) (cwS 1 hts (ga_S kw_350 kw_351 kw_34 (ga_in kw_352)) rfl rfl rfl (by decide +kernel) ⟨Nat.le_of_ble_eq_true rfl, Nat.le_of_ble_eq_true rfl⟩) (wy_preS (hP.sub (ws' := []) [] rfl) (hK.sub (tys' := []) [] rfl) hN) rfl rfl hl.1 rfl (lv_room (Nat.le_of_ble_eq_true rfl)) d_Pa_foretell_13 ⟨Nat.le_of_ble_eq_true rfl, Nat.le_of_ble_eq_true rfl⟩).run (fun r_13 h_13 => ?_)
  subst h_13
  refine wy_ifeqB (tgt := 30) hx hb d_Pa_foretell_16 (by decide) (fun c_16 => ?_) (fun c_16 => ?_)
  · rw [hday] at c_16; cases c_16
  · refine lv_iload_n hx hb d_Pa_foretell_19 rfl (lv_at hl 4 rfl) ?_
    refine lv_iconst (v := 1) hx hb d_Pa_foretell_20 (by decide) ?_
    refine wy_icmp_lt (tgt := 30) hx hb nn 1 (by omega) (by omega) d_Pa_foretell_21 (by decide) (fun c_21 => ?_) (fun c_21 => ?_)
    · exact absurd c_21 (by omega)
    · refine lv_iload_n hx hb d_Pa_foretell_24 rfl (lv_at hl 4 rfl) ?_
      refine lv_bipush (v := 100) hx hb d_Pa_foretell_25 (by decide) ?_
      refine wy_icmp_le (tgt := 32) hx hb nn 100 (by omega) (by omega) d_Pa_foretell_27 (by decide) (fun c_27 => ?_) (fun c_27 => ?_)
      · refine lv_aload_n hx hb d_Pa_foretell_32 rfl (lv_at hl 1 rfl) ?_
        refine va_get (D := (dC, dI)) (ci := 4) (v := .ref li) (C := "PatternText") (T := F_Pa) (N := 6) hx hb hts iw_Pa hown hK hP 0 rfl rfl 3 (by decide) (hts _ kw_158) (fun _ h9 => h9) rfl d_Pa_foretell_33 ?_
        refine lv_iconst (v := 0) hx hb d_Pa_foretell_36 (by decide) ?_
        refine wy_callv (wr := [(xx, .inr (4, [.ref rd, .ref qa, .ref ho, .ref li, .int (nI cn), pr])), (qa, .inl (cP, 10, .inr (.inr (.inr (.inr pf))))), (a0, .inl (cI, 100, .inl fs)), (a1, .inl (cI, 100, .inl fe)), (a2, .inl (cI, 100, .inl fl)), (a3, .inl (cI, 100, .inl fn)), (a4, .inl (cI, 100, .inl ft)), (a5, .inl (cI, 100, .inl f2)), (a6, .inl (cI, 100, .inl fv)), (a7, .inl (cI, 100, .inl fp)), (a8, .inl (cI, 100, .inl fc)), (pa, .inr (2, [.int (nI pk), .ref ps, .int (nI sd), .int mo, .int (nI jo), .int (nI vo), .int (bo_I re)])), (ho, .inr (0, [.ref ha, .int (nI hc)])), (ha, .inl (cI, 60, .inl hd))]) (w1 := [(li, .inr (1, [.ref a0, .ref a1, .ref a2, .ref a3, .ref a4, .ref a5, .ref a6, .ref a7, .ref a8, .int (nI 0)]))]) (va_runV (As := [.int 0]) (rest := []) ⟨hx, hb, hml, hown, hts⟩ (c_Li_cutTo l dC dI s.heap.size li a0 a1 a2 a3 a4 a5 a6 a7 a8 ns 0 ) (cwV 1 hts (ga_V kw_354 kw_355 kw_356 kw_37 (ga_in kw_357)) rfl rfl rfl (by decide +kernel) ⟨Nat.le_of_ble_eq_true rfl, Nat.le_of_ble_eq_true rfl⟩) (wy_mreV 0 (hP.sub (ws' := [(li, .inr (1, [.ref a0, .ref a1, .ref a2, .ref a3, .ref a4, .ref a5, .ref a6, .ref a7, .ref a8, .int (nI ns)]))]) [2] rfl) (hK.sub (tys' := []) [] rfl) hN (hD.sub (ws' := [(li, .inr (1, [.ref a0, .ref a1, .ref a2, .ref a3, .ref a4, .ref a5, .ref a6, .ref a7, .ref a8, .int (nI ns)]))]) [2] (by decide) rfl) (ci := 1) rfl rfl rfl) rfl rfl hl.1 rfl (lv_room (Nat.le_of_ble_eq_true rfl)) d_Pa_foretell_37 ⟨Nat.le_of_ble_eq_true rfl, Nat.le_of_ble_eq_true rfl⟩) hP hD hS hA [2] [0, 1, 3, 4, 5, 6, 7, 8, 9, 10, 11, 12, 13, 14] rfl rfl (by decide) (by decide) (fun H locs hP hD hS => ?_)
        have hP := hP.sub (ws' := [(xx, .inr (4, [.ref rd, .ref qa, .ref ho, .ref li, .int (nI cn), pr])), (qa, .inl (cP, 10, .inr (.inr (.inr (.inr pf))))), (li, .inr (1, [.ref a0, .ref a1, .ref a2, .ref a3, .ref a4, .ref a5, .ref a6, .ref a7, .ref a8, .int (nI 0)])), (a0, .inl (cI, 100, .inl fs)), (a1, .inl (cI, 100, .inl fe)), (a2, .inl (cI, 100, .inl fl)), (a3, .inl (cI, 100, .inl fn)), (a4, .inl (cI, 100, .inl ft)), (a5, .inl (cI, 100, .inl f2)), (a6, .inl (cI, 100, .inl fv)), (a7, .inl (cI, 100, .inl fp)), (a8, .inl (cI, 100, .inl fc)), (pa, .inr (2, [.int (nI pk), .ref ps, .int (nI sd), .int mo, .int (nI jo), .int (nI vo), .int (bo_I re)])), (ho, .inr (0, [.ref ha, .int (nI hc)])), (ha, .inl (cI, 60, .inl hd))]) [0, 1, 14, 2, 3, 4, 5, 6, 7, 8, 9, 10, 11, 12, 13] rfl
        have hD := hD.sub (ws' := [(xx, .inr (4, [.ref rd, .ref qa, .ref ho, .ref li, .int (nI cn), pr])), (qa, .inl (cP, 10, .inr (.inr (.inr (.inr pf))))), (li, .inr (1, [.ref a0, .ref a1, .ref a2, .ref a3, .ref a4, .ref a5, .ref a6, .ref a7, .ref a8, .int (nI 0)])), (a0, .inl (cI, 100, .inl fs)), (a1, .inl (cI, 100, .inl fe)), (a2, .inl (cI, 100, .inl fl)), (a3, .inl (cI, 100, .inl fn)), (a4, .inl (cI, 100, .inl ft)), (a5, .inl (cI, 100, .inl f2)), (a6, .inl (cI, 100, .inl fv)), (a7, .inl (cI, 100, .inl fp)), (a8, .inl (cI, 100, .inl fc)), (pa, .inr (2, [.int (nI pk), .ref ps, .int (nI sd), .int mo, .int (nI jo), .int (nI vo), .int (bo_I re)])), (ho, .inr (0, [.ref ha, .int (nI hc)])), (ha, .inl (cI, 60, .inl hd))]) [0, 1, 14, 2, 3, 4, 5, 6, 7, 8, 9, 10, 11, 12, 13] (by decide) rfl
        refine lv_aload_n hx hb d_Pa_foretell_40 rfl (lv_at hl 1 rfl) ?_
        refine va_get (D := (dC, dI)) (ci := 4) (v := .ref li) (C := "PatternText") (T := F_Pa) (N := 6) hx hb hts iw_Pa hown hK hP 0 rfl rfl 3 (by decide) (hts _ kw_158) (fun _ h9 => h9) rfl d_Pa_foretell_41 ?_
        refine lv_aload hx hb d_Pa_foretell_44 (lv_at hl 0 rfl) ?_
        refine lv_iload_n hx hb d_Pa_foretell_46 rfl (lv_at hl 3 rfl) ?_
        refine lv_iload_n hx hb d_Pa_foretell_47 rfl (lv_at hl 4 rfl) ?_
        refine lv_aload_n hx hb d_Pa_foretell_48 rfl (lv_at hl 1 rfl) ?_
        refine va_get (D := (dC, dI)) (ci := 4) (v := .ref ho) (C := "PatternText") (T := F_Pa) (N := 6) hx hb hts iw_Pa hown hK hP 0 rfl rfl 2 (by decide) (hts _ kw_157) (fun _ h9 => h9) rfl d_Pa_foretell_49 ?_
        refine wy_callv (wr := [(xx, .inr (4, [.ref rd, .ref qa, .ref ho, .ref li, .int (nI cn), pr])), (qa, .inl (cP, 10, .inr (.inr (.inr (.inr pf)))))]) (w1 := [(li, .inr (1, [.ref a0, .ref a1, .ref a2, .ref a3, .ref a4, .ref a5, .ref a6, .ref a7, .ref a8, .int (nI ((li_go pk sd mo jo vo re hd hc nn 1 dy 0 (0, fs, fe, fl, fn, ft, f2, fv, fp, fc)).1))])), (a0, .inl (cI, 100, .inl ((li_go pk sd mo jo vo re hd hc nn 1 dy 0 (0, fs, fe, fl, fn, ft, f2, fv, fp, fc)).2.1))), (a1, .inl (cI, 100, .inl ((li_go pk sd mo jo vo re hd hc nn 1 dy 0 (0, fs, fe, fl, fn, ft, f2, fv, fp, fc)).2.2.1))), (a2, .inl (cI, 100, .inl ((li_go pk sd mo jo vo re hd hc nn 1 dy 0 (0, fs, fe, fl, fn, ft, f2, fv, fp, fc)).2.2.2.1))), (a3, .inl (cI, 100, .inl ((li_go pk sd mo jo vo re hd hc nn 1 dy 0 (0, fs, fe, fl, fn, ft, f2, fv, fp, fc)).2.2.2.2.1))), (a4, .inl (cI, 100, .inl ((li_go pk sd mo jo vo re hd hc nn 1 dy 0 (0, fs, fe, fl, fn, ft, f2, fv, fp, fc)).2.2.2.2.2.1))), (a5, .inl (cI, 100, .inl ((li_go pk sd mo jo vo re hd hc nn 1 dy 0 (0, fs, fe, fl, fn, ft, f2, fv, fp, fc)).2.2.2.2.2.2.1))), (a6, .inl (cI, 100, .inl ((li_go pk sd mo jo vo re hd hc nn 1 dy 0 (0, fs, fe, fl, fn, ft, f2, fv, fp, fc)).2.2.2.2.2.2.2.1))), (a7, .inl (cI, 100, .inl ((li_go pk sd mo jo vo re hd hc nn 1 dy 0 (0, fs, fe, fl, fn, ft, f2, fv, fp, fc)).2.2.2.2.2.2.2.2.1))), (a8, .inl (cI, 100, .inl ((li_go pk sd mo jo vo re hd hc nn 1 dy 0 (0, fs, fe, fl, fn, ft, f2, fv, fp, fc)).2.2.2.2.2.2.2.2.2))), (pa, .inr (2, [.int (nI pk), .ref ps, .int (nI sd), .int mo, .int (nI jo), .int (nI vo), .int (bo_I re)])), (ho, .inr (0, [.ref ha, .int (nI hc)])), (ha, .inl (cI, 60, .inl hd))]) (va_runV (As := [.ref pa, .int (nI dy), .int (nI nn), .ref ho]) (rest := []) ⟨hx, hb, hml, hown, hts⟩ (c_Li_goOn l dC dI H.size li a0 a1 a2 a3 a4 a5 a6 a7 a8 0 cI fs fe fl fn ft f2 fv fp fc pa ps pk sd mo jo vo re ho ha hd hc dy nn 0 (by omega) (Or.inl ⟨rfl, rfl⟩) (by omega) (by omega) (by omega) (by omega) (by omega) (by omega) (by omega)) (cwV 4 hts (ga_V kw_358 kw_359 kw_360 kw_37 (ga_in kw_361)) rfl rfl rfl (by decide +kernel) ⟨Nat.le_of_ble_eq_true rfl, Nat.le_of_ble_eq_true rfl⟩) (wy_mreV 0 (hP.sub (ws' := [(li, .inr (1, [.ref a0, .ref a1, .ref a2, .ref a3, .ref a4, .ref a5, .ref a6, .ref a7, .ref a8, .int (nI 0)])), (a0, .inl (cI, 100, .inl fs)), (a1, .inl (cI, 100, .inl fe)), (a2, .inl (cI, 100, .inl fl)), (a3, .inl (cI, 100, .inl fn)), (a4, .inl (cI, 100, .inl ft)), (a5, .inl (cI, 100, .inl f2)), (a6, .inl (cI, 100, .inl fv)), (a7, .inl (cI, 100, .inl fp)), (a8, .inl (cI, 100, .inl fc)), (pa, .inr (2, [.int (nI pk), .ref ps, .int (nI sd), .int mo, .int (nI jo), .int (nI vo), .int (bo_I re)])), (ho, .inr (0, [.ref ha, .int (nI hc)])), (ha, .inl (cI, 60, .inl hd))]) [2, 3, 4, 5, 6, 7, 8, 9, 10, 11, 12, 13, 14] rfl) (hK.sub (tys' := [(cI, .int)]) [0] rfl) hN (hD.sub (ws' := [(li, .inr (1, [.ref a0, .ref a1, .ref a2, .ref a3, .ref a4, .ref a5, .ref a6, .ref a7, .ref a8, .int (nI 0)])), (a0, .inl (cI, 100, .inl fs)), (a1, .inl (cI, 100, .inl fe)), (a2, .inl (cI, 100, .inl fl)), (a3, .inl (cI, 100, .inl fn)), (a4, .inl (cI, 100, .inl ft)), (a5, .inl (cI, 100, .inl f2)), (a6, .inl (cI, 100, .inl fv)), (a7, .inl (cI, 100, .inl fp)), (a8, .inl (cI, 100, .inl fc)), (pa, .inr (2, [.int (nI pk), .ref ps, .int (nI sd), .int mo, .int (nI jo), .int (nI vo), .int (bo_I re)])), (ho, .inr (0, [.ref ha, .int (nI hc)])), (ha, .inl (cI, 60, .inl hd))]) [2, 3, 4, 5, 6, 7, 8, 9, 10, 11, 12, 13, 14] (by decide) rfl) (ci := 1) rfl rfl rfl) rfl rfl hl.1 rfl (lv_room (Nat.le_of_ble_eq_true rfl)) d_Pa_foretell_52 ⟨Nat.le_of_ble_eq_true rfl, Nat.le_of_ble_eq_true rfl⟩) hP hD hS hA [2, 3, 4, 5, 6, 7, 8, 9, 10, 11, 12, 13, 14] [0, 1] rfl rfl (by decide) (by decide) (fun H locs hP hD hS => ?_)
        have hP := hP.sub (ws' := [(xx, .inr (4, [.ref rd, .ref qa, .ref ho, .ref li, .int (nI cn), pr])), (qa, .inl (cP, 10, .inr (.inr (.inr (.inr pf))))), (li, .inr (1, [.ref a0, .ref a1, .ref a2, .ref a3, .ref a4, .ref a5, .ref a6, .ref a7, .ref a8, .int (nI ((li_go pk sd mo jo vo re hd hc nn 1 dy 0 (0, fs, fe, fl, fn, ft, f2, fv, fp, fc)).1))])), (a0, .inl (cI, 100, .inl ((li_go pk sd mo jo vo re hd hc nn 1 dy 0 (0, fs, fe, fl, fn, ft, f2, fv, fp, fc)).2.1))), (a1, .inl (cI, 100, .inl ((li_go pk sd mo jo vo re hd hc nn 1 dy 0 (0, fs, fe, fl, fn, ft, f2, fv, fp, fc)).2.2.1))), (a2, .inl (cI, 100, .inl ((li_go pk sd mo jo vo re hd hc nn 1 dy 0 (0, fs, fe, fl, fn, ft, f2, fv, fp, fc)).2.2.2.1))), (a3, .inl (cI, 100, .inl ((li_go pk sd mo jo vo re hd hc nn 1 dy 0 (0, fs, fe, fl, fn, ft, f2, fv, fp, fc)).2.2.2.2.1))), (a4, .inl (cI, 100, .inl ((li_go pk sd mo jo vo re hd hc nn 1 dy 0 (0, fs, fe, fl, fn, ft, f2, fv, fp, fc)).2.2.2.2.2.1))), (a5, .inl (cI, 100, .inl ((li_go pk sd mo jo vo re hd hc nn 1 dy 0 (0, fs, fe, fl, fn, ft, f2, fv, fp, fc)).2.2.2.2.2.2.1))), (a6, .inl (cI, 100, .inl ((li_go pk sd mo jo vo re hd hc nn 1 dy 0 (0, fs, fe, fl, fn, ft, f2, fv, fp, fc)).2.2.2.2.2.2.2.1))), (a7, .inl (cI, 100, .inl ((li_go pk sd mo jo vo re hd hc nn 1 dy 0 (0, fs, fe, fl, fn, ft, f2, fv, fp, fc)).2.2.2.2.2.2.2.2.1))), (a8, .inl (cI, 100, .inl ((li_go pk sd mo jo vo re hd hc nn 1 dy 0 (0, fs, fe, fl, fn, ft, f2, fv, fp, fc)).2.2.2.2.2.2.2.2.2))), (pa, .inr (2, [.int (nI pk), .ref ps, .int (nI sd), .int mo, .int (nI jo), .int (nI vo), .int (bo_I re)])), (ho, .inr (0, [.ref ha, .int (nI hc)])), (ha, .inl (cI, 60, .inl hd))]) [0, 1, 2, 3, 4, 5, 6, 7, 8, 9, 10, 11, 12, 13, 14] rfl
        have hD := hD.sub (ws' := [(xx, .inr (4, [.ref rd, .ref qa, .ref ho, .ref li, .int (nI cn), pr])), (qa, .inl (cP, 10, .inr (.inr (.inr (.inr pf))))), (li, .inr (1, [.ref a0, .ref a1, .ref a2, .ref a3, .ref a4, .ref a5, .ref a6, .ref a7, .ref a8, .int (nI ((li_go pk sd mo jo vo re hd hc nn 1 dy 0 (0, fs, fe, fl, fn, ft, f2, fv, fp, fc)).1))])), (a0, .inl (cI, 100, .inl ((li_go pk sd mo jo vo re hd hc nn 1 dy 0 (0, fs, fe, fl, fn, ft, f2, fv, fp, fc)).2.1))), (a1, .inl (cI, 100, .inl ((li_go pk sd mo jo vo re hd hc nn 1 dy 0 (0, fs, fe, fl, fn, ft, f2, fv, fp, fc)).2.2.1))), (a2, .inl (cI, 100, .inl ((li_go pk sd mo jo vo re hd hc nn 1 dy 0 (0, fs, fe, fl, fn, ft, f2, fv, fp, fc)).2.2.2.1))), (a3, .inl (cI, 100, .inl ((li_go pk sd mo jo vo re hd hc nn 1 dy 0 (0, fs, fe, fl, fn, ft, f2, fv, fp, fc)).2.2.2.2.1))), (a4, .inl (cI, 100, .inl ((li_go pk sd mo jo vo re hd hc nn 1 dy 0 (0, fs, fe, fl, fn, ft, f2, fv, fp, fc)).2.2.2.2.2.1))), (a5, .inl (cI, 100, .inl ((li_go pk sd mo jo vo re hd hc nn 1 dy 0 (0, fs, fe, fl, fn, ft, f2, fv, fp, fc)).2.2.2.2.2.2.1))), (a6, .inl (cI, 100, .inl ((li_go pk sd mo jo vo re hd hc nn 1 dy 0 (0, fs, fe, fl, fn, ft, f2, fv, fp, fc)).2.2.2.2.2.2.2.1))), (a7, .inl (cI, 100, .inl ((li_go pk sd mo jo vo re hd hc nn 1 dy 0 (0, fs, fe, fl, fn, ft, f2, fv, fp, fc)).2.2.2.2.2.2.2.2.1))), (a8, .inl (cI, 100, .inl ((li_go pk sd mo jo vo re hd hc nn 1 dy 0 (0, fs, fe, fl, fn, ft, f2, fv, fp, fc)).2.2.2.2.2.2.2.2.2))), (pa, .inr (2, [.int (nI pk), .ref ps, .int (nI sd), .int mo, .int (nI jo), .int (nI vo), .int (bo_I re)])), (ho, .inr (0, [.ref ha, .int (nI hc)])), (ha, .inl (cI, 60, .inl hd))]) [0, 1, 2, 3, 4, 5, 6, 7, 8, 9, 10, 11, 12, 13, 14] (by decide) rfl
        refine lv_aload_n hx hb d_Pa_foretell_55 rfl (lv_at hl 1 rfl) ?_
        refine va_get (D := (dC, dI)) (ci := 4) (v := .ref li) (C := "PatternText") (T := F_Pa) (N := 6) hx hb hts iw_Pa hown hK hP 0 rfl rfl 3 (by decide) (hts _ kw_158) (fun _ h9 => h9) rfl d_Pa_foretell_56 ?_
        refine va_getN (D := (dC, dI)) (ci := 1) (v := .int (nI ((li_go pk sd mo jo vo re hd hc nn 1 dy 0 (0, fs, fe, fl, fn, ft, f2, fv, fp, fc)).1))) (C := "PatternText$IssueList") (T := F_Li) (N := 10) hx hb hts iw_Li hown hK hP 2 rfl rfl 9 (by decide) (nw_133 hN) (fun _ h9 => h9) rfl d_Pa_foretell_59 ?_
        rw [hQ]
        have q9 : (nI ((li_go pk sd mo jo vo re hd hc nn 1 dy 0 (0, fs, fe, fl, fn, ft, f2, fv, fp, fc)).1) : Int32) = nI (li_go pk sd mo jo vo re hd hc nn 1 dy 0 (0, fs, fe, fl, fn, ft, f2, fv, fp, fc)).1 := by rfl
        have e9 : ([(xx, .inr (4, [.ref rd, .ref qa, .ref ho, .ref li, .int (nI cn), pr])), (qa, .inl (cP, 10, .inr (.inr (.inr (.inr pf))))), (li, .inr (1, [.ref a0, .ref a1, .ref a2, .ref a3, .ref a4, .ref a5, .ref a6, .ref a7, .ref a8, .int (nI ((li_go pk sd mo jo vo re hd hc nn 1 dy 0 (0, fs, fe, fl, fn, ft, f2, fv, fp, fc)).1))])), (a0, .inl (cI, 100, .inl ((li_go pk sd mo jo vo re hd hc nn 1 dy 0 (0, fs, fe, fl, fn, ft, f2, fv, fp, fc)).2.1))), (a1, .inl (cI, 100, .inl ((li_go pk sd mo jo vo re hd hc nn 1 dy 0 (0, fs, fe, fl, fn, ft, f2, fv, fp, fc)).2.2.1))), (a2, .inl (cI, 100, .inl ((li_go pk sd mo jo vo re hd hc nn 1 dy 0 (0, fs, fe, fl, fn, ft, f2, fv, fp, fc)).2.2.2.1))), (a3, .inl (cI, 100, .inl ((li_go pk sd mo jo vo re hd hc nn 1 dy 0 (0, fs, fe, fl, fn, ft, f2, fv, fp, fc)).2.2.2.2.1))), (a4, .inl (cI, 100, .inl ((li_go pk sd mo jo vo re hd hc nn 1 dy 0 (0, fs, fe, fl, fn, ft, f2, fv, fp, fc)).2.2.2.2.2.1))), (a5, .inl (cI, 100, .inl ((li_go pk sd mo jo vo re hd hc nn 1 dy 0 (0, fs, fe, fl, fn, ft, f2, fv, fp, fc)).2.2.2.2.2.2.1))), (a6, .inl (cI, 100, .inl ((li_go pk sd mo jo vo re hd hc nn 1 dy 0 (0, fs, fe, fl, fn, ft, f2, fv, fp, fc)).2.2.2.2.2.2.2.1))), (a7, .inl (cI, 100, .inl ((li_go pk sd mo jo vo re hd hc nn 1 dy 0 (0, fs, fe, fl, fn, ft, f2, fv, fp, fc)).2.2.2.2.2.2.2.2.1))), (a8, .inl (cI, 100, .inl ((li_go pk sd mo jo vo re hd hc nn 1 dy 0 (0, fs, fe, fl, fn, ft, f2, fv, fp, fc)).2.2.2.2.2.2.2.2.2))), (pa, .inr (2, [.int (nI pk), .ref ps, .int (nI sd), .int mo, .int (nI jo), .int (nI vo), .int (bo_I re)])), (ho, .inr (0, [.ref ha, .int (nI hc)])), (ha, .inl (cI, 60, .inl hd))] : va_W) = [(xx, .inr (4, [.ref rd, .ref qa, .ref ho, .ref li, .int (nI cn), pr])), (qa, .inl (cP, 10, .inr (.inr (.inr (.inr pf))))), (li, .inr (1, [.ref a0, .ref a1, .ref a2, .ref a3, .ref a4, .ref a5, .ref a6, .ref a7, .ref a8, .int (nI ((li_go pk sd mo jo vo re hd hc nn 1 dy 0 (0, fs, fe, fl, fn, ft, f2, fv, fp, fc)).1))])), (a0, .inl (cI, 100, .inl ((li_go pk sd mo jo vo re hd hc nn 1 dy 0 (0, fs, fe, fl, fn, ft, f2, fv, fp, fc)).2.1))), (a1, .inl (cI, 100, .inl ((li_go pk sd mo jo vo re hd hc nn 1 dy 0 (0, fs, fe, fl, fn, ft, f2, fv, fp, fc)).2.2.1))), (a2, .inl (cI, 100, .inl ((li_go pk sd mo jo vo re hd hc nn 1 dy 0 (0, fs, fe, fl, fn, ft, f2, fv, fp, fc)).2.2.2.1))), (a3, .inl (cI, 100, .inl ((li_go pk sd mo jo vo re hd hc nn 1 dy 0 (0, fs, fe, fl, fn, ft, f2, fv, fp, fc)).2.2.2.2.1))), (a4, .inl (cI, 100, .inl ((li_go pk sd mo jo vo re hd hc nn 1 dy 0 (0, fs, fe, fl, fn, ft, f2, fv, fp, fc)).2.2.2.2.2.1))), (a5, .inl (cI, 100, .inl ((li_go pk sd mo jo vo re hd hc nn 1 dy 0 (0, fs, fe, fl, fn, ft, f2, fv, fp, fc)).2.2.2.2.2.2.1))), (a6, .inl (cI, 100, .inl ((li_go pk sd mo jo vo re hd hc nn 1 dy 0 (0, fs, fe, fl, fn, ft, f2, fv, fp, fc)).2.2.2.2.2.2.2.1))), (a7, .inl (cI, 100, .inl ((li_go pk sd mo jo vo re hd hc nn 1 dy 0 (0, fs, fe, fl, fn, ft, f2, fv, fp, fc)).2.2.2.2.2.2.2.2.1))), (a8, .inl (cI, 100, .inl ((li_go pk sd mo jo vo re hd hc nn 1 dy 0 (0, fs, fe, fl, fn, ft, f2, fv, fp, fc)).2.2.2.2.2.2.2.2.2))), (pa, .inr (2, [.int (nI pk), .ref ps, .int (nI sd), .int mo, .int (nI jo), .int (nI vo), .int (bo_I re)])), (ho, .inr (0, [.ref ha, .int (nI hc)])), (ha, .inl (cI, 60, .inl hd))] := by rfl
        exact W.iret (v := nI ((li_go pk sd mo jo vo re hd hc nn 1 dy 0 (0, fs, fe, fl, fn, ft, f2, fv, fp, fc)).1)) hx hb hr (fun t ht hW => ⟨⟨_, (), rfl, q9, by rw [ht, e9]; exact hP, va_K.moved hW.alike hK, by rw [e9]; exact hD⟩, hS.F ht⟩) hS.2.2 d_Pa_foretell_62
      · exact absurd c_27 (by omega)

set_option maxHeartbeats 4000000 in
set_option maxRecDepth 100000 in
theorem c_Pa_changed_c (l : Launch) (dC : Nat → ClassId) (dI : Nat → Nat → Nat) (xx : Nat) (rd : Nat) (qa : Nat) (ho : Nat) (li : Nat) (cn : Nat) (pr : Value) (cP : ClassId) (pf : Nat → Option Nat) (pq : Nat) (pa : Nat) (a0 : Nat) (a1 : Nat) (a2 : Nat) (a3 : Nat) (a4 : Nat) (a5 : Nat) (a6 : Nat) (a7 : Nat) (a8 : Nat) (ns : Nat) (cI : ClassId) (fs : Nat → Int32) (fc : Nat → Int32) (dy : Nat) (hc0 : cn ≤ 10) (hk : pq < cn) (hpf : pf pq = some pa) (hn : ns ≤ 100) (hdy : dy ≤ 1000000) (hco : li_come fc (ns - (li_bef fs (nI dy) ns 0)) (li_bef fs (nI dy) ns 0) = true) : Met l y_Pa_changed w_Pa_changed ({ frames := 3, cells := 0, slots := 0, locals := 64 }) (va_Pc [.ref xx, .int (nI pq), .int (nI dy)] (wy_R (dC, dI) ga_cl [(xx, .inr (4, [.ref rd, .ref qa, .ref ho, .ref li, .int (nI cn), pr])), (qa, .inl (cP, 10, .inr (.inr (.inr (.inr pf))))), (li, .inr (1, [.ref a0, .ref a1, .ref a2, .ref a3, .ref a4, .ref a5, .ref a6, .ref a7, .ref a8, .int (nI ns)])), (a0, .inl (cI, 100, .inl fs)), (a8, .inl (cI, 100, .inl fc))] [(cI, .int), (cP, .object "PatternText$Pattern")])) (vp_Si (fun r => r = (-1))) 0 0 (fun _ => False) := by
  refine Met.ofW (cc := b_Pa_changed) (maxL := 6) (ret := (some .int)) (by decide) rfl ?_
  intro p e s m args below meth c s₁ B hml hv
  obtain ⟨rfl, hP, hK, hN⟩ := hv
  have hx := B.exec
  have hb := B.bytes
  have hr := B.returns
  have hts : ∀ w ∈ ga_tbl, w.before _ s = true := fun w h => atoms_spec (ws := w_Pa_changed) B.pre w (List.mem_cons_of_mem _ h)
  have hown : s.vm.findClass "PatternText" = some m.cls := findClass_of_methodNamed B.named
  have hlocks := B.notSynchronized
  have hl := lv_entry ([.ref xx, .int (nI pq), .int (nI dy)]) (n := 6) (Nat.le_of_ble_eq_true rfl)
  rw [lg_entry_eq]
  generalize (lg_sl ([.ref xx, .int (nI pq), .int (nI dy)]) ++ List.replicate (6 - (lg_sl ([.ref xx, .int (nI pq), .int (nI dy)])).length) Slot.unset).toArray = ls at hl ⊢
  have hl : lv_has ls 6 [(0, .ref xx), (1, .int (nI pq)), (2, .int (nI dy))] := hl
  have hday : mo_day (nI dy) = true := by rw [mo_day_nI (by omega), decide_eq_true hdy]
  have hlb := li_bef_le (fs := fs) (x := nI dy) ns 0
  refine lv_aload_n hx hb d_Pa_changed_0 rfl (lv_at hl 0 rfl) ?_
  refine lv_iload_n hx hb d_Pa_changed_1 rfl (lv_at hl 1 rfl) ?_
  refine va_csq (va_runV (As := [.int (nI pq)]) (rest := []) ⟨hx, hb, hml, hown, hts⟩ (c_Pa_patternOf_s l dC dI xx rd qa ho li cn pr cP pf pq pa (by omega) (hk) (hpf)) (cwV 1 hts (ga_V kw_346 kw_348 kw_11 kw_34 (ga_in kw_349)) rfl rfl rfl (by decide +kernel) ⟨Nat.le_of_ble_eq_true rfl, Nat.le_of_ble_eq_true rfl⟩) (wy_preV 0 (hP.sub (ws' := [(xx, .inr (4, [.ref rd, .ref qa, .ref ho, .ref li, .int (nI cn), pr])), (qa, .inl (cP, 10, .inr (.inr (.inr (.inr pf)))))]) [0, 1] rfl) (hK.sub (tys' := [(cP, .object "PatternText$Pattern")]) [1] rfl) hN (ci := 4) rfl rfl rfl) rfl rfl hl.1 rfl (lv_room (Nat.le_of_ble_eq_true rfl)) d_Pa_changed_2 ⟨Nat.le_of_ble_eq_true rfl, Nat.le_of_ble_eq_true rfl⟩).run (fun r_2 h_2 => ?_)
  subst h_2
  refine lv_astore_n (lv' := [(3, .ref pa), (0, .ref xx), (1, .int (nI pq)), (2, .int (nI dy))]) hx hb d_Pa_changed_5 rfl hl (by decide) rfl (fun ls hl => ?_)
  refine lv_aload_n hx hb d_Pa_changed_6 rfl (lv_at hl 0 rfl) ?_
  refine lv_ifnull hx hb d_Pa_changed_7 ?_
  refine lv_iload_n hx hb d_Pa_changed_10 rfl (lv_at hl 3 rfl) ?_
  refine vp_callSi (va_runS (As := [.int (nI dy)]) (rest := []) ⟨hx, hb, hml, hown, hts⟩ (c_Pa_isDay l dC dI (nI dy) ) (cwS 1 hts (ga_S kw_350 kw_351 kw_34 (ga_in kw_352)) rfl rfl rfl (by decide +kernel) ⟨Nat.le_of_ble_eq_true rfl, Nat.le_of_ble_eq_true rfl⟩) (wy_preS (hP.sub (ws' := []) [] rfl) (hK.sub (tys' := []) [] rfl) hN) rfl rfl hl.1 rfl (lv_room (Nat.le_of_ble_eq_true rfl)) d_Pa_changed_11 ⟨Nat.le_of_ble_eq_true rfl, Nat.le_of_ble_eq_true rfl⟩).run (fun r_11 h_11 => ?_)
  subst h_11
  refine wy_ifneB (tgt := 19) hx hb d_Pa_changed_14 (by decide) (fun c_14 => ?_) (fun c_14 => ?_)
  · refine lv_aload_n hx hb d_Pa_changed_19 rfl (lv_at hl 1 rfl) ?_
    refine va_get (D := (dC, dI)) (ci := 4) (v := .ref li) (C := "PatternText") (T := F_Pa) (N := 6) hx hb hts iw_Pa hown hK hP 0 rfl rfl 3 (by decide) (hts _ kw_158) (fun _ h9 => h9) rfl d_Pa_changed_20 ?_
    refine lv_iload_n hx hb d_Pa_changed_23 rfl (lv_at hl 3 rfl) ?_
    refine vp_callSi (va_runV (As := [.int (nI dy)]) (rest := []) ⟨hx, hb, hml, hown, hts⟩ (c_Li_countBefore l dC dI li a0 a1 a2 a3 a4 a5 a6 a7 a8 ns cI fs (nI dy) (by omega)) (cwV 1 hts (ga_V kw_396 kw_397 kw_398 kw_37 (ga_in kw_399)) rfl rfl rfl (by decide +kernel) ⟨Nat.le_of_ble_eq_true rfl, Nat.le_of_ble_eq_true rfl⟩) (wy_preV 0 (hP.sub (ws' := [(li, .inr (1, [.ref a0, .ref a1, .ref a2, .ref a3, .ref a4, .ref a5, .ref a6, .ref a7, .ref a8, .int (nI ns)])), (a0, .inl (cI, 100, .inl fs))]) [2, 3] rfl) (hK.sub (tys' := [(cI, .int)]) [0] rfl) hN (ci := 1) rfl rfl rfl) rfl rfl hl.1 rfl (lv_room (Nat.le_of_ble_eq_true rfl)) d_Pa_changed_24 ⟨Nat.le_of_ble_eq_true rfl, Nat.le_of_ble_eq_true rfl⟩).run (fun r_24 h_24 => ?_)
    subst h_24
    refine lv_istore (lv' := [(4, .int (nI (li_bef fs (nI dy) ns 0))), (3, .ref pa), (0, .ref xx), (1, .int (nI pq)), (2, .int (nI dy))]) hx hb d_Pa_changed_27 hl (by decide) rfl (fun ls hl => ?_)
    refine lv_aload_n hx hb d_Pa_changed_29 rfl (lv_at hl 2 rfl) ?_
    refine va_get (D := (dC, dI)) (ci := 4) (v := .ref li) (C := "PatternText") (T := F_Pa) (N := 6) hx hb hts iw_Pa hown hK hP 0 rfl rfl 3 (by decide) (hts _ kw_158) (fun _ h9 => h9) rfl d_Pa_changed_30 ?_
    refine lv_iload hx hb d_Pa_changed_33 (lv_at hl 0 rfl) ?_
    refine vp_callSi (va_runV (As := [.int (nI (li_bef fs (nI dy) ns 0))]) (rest := []) ⟨hx, hb, hml, hown, hts⟩ (c_Li_hasComeFrom l dC dI li a0 a1 a2 a3 a4 a5 a6 a7 a8 ns cI fc (li_bef fs (nI dy) ns 0) (by omega) (by omega)) (cwV 1 hts (ga_V kw_400 kw_401 kw_402 kw_37 (ga_in kw_403)) rfl rfl rfl (by decide +kernel) ⟨Nat.le_of_ble_eq_true rfl, Nat.le_of_ble_eq_true rfl⟩) (wy_preV 0 (hP.sub (ws' := [(li, .inr (1, [.ref a0, .ref a1, .ref a2, .ref a3, .ref a4, .ref a5, .ref a6, .ref a7, .ref a8, .int (nI ns)])), (a8, .inl (cI, 100, .inl fc))]) [2, 4] rfl) (hK.sub (tys' := [(cI, .int)]) [0] rfl) hN (ci := 1) rfl rfl rfl) rfl rfl hl.1 rfl (lv_room (Nat.le_of_ble_eq_true rfl)) d_Pa_changed_35 ⟨Nat.le_of_ble_eq_true rfl, Nat.le_of_ble_eq_true rfl⟩).run (fun r_35 h_35 => ?_)
    subst h_35
    refine wy_ifeqB (tgt := 43) hx hb d_Pa_changed_38 (by decide) (fun c_38 => ?_) (fun c_38 => ?_)
    · rw [hco] at c_38; cases c_38
    · refine lv_iconst (v := -1) hx hb d_Pa_changed_41 (by decide) ?_
      have q9 : ((-1) : Int32) = (-1) := by rfl
      exact W.iret (v := (-1)) hx hb hr (fun t ht _ => ⟨_, rfl, q9, ht⟩) (fun _ h9 => by cases h9) d_Pa_changed_42
  · rw [hday] at c_14; cases c_14

set_option maxHeartbeats 4000000 in
set_option maxRecDepth 100000 in
theorem c_Pa_changed_s (l : Launch) (dC : Nat → ClassId) (dI : Nat → Nat → Nat) (sz : Nat) (xx : Nat) (rd : Nat) (qa : Nat) (ho : Nat) (li : Nat) (cn : Nat) (pr : Value) (cP : ClassId) (pf : Nat → Option Nat) (pq : Nat) (pa : Nat) (a0 : Nat) (a1 : Nat) (a2 : Nat) (a3 : Nat) (a4 : Nat) (a5 : Nat) (a6 : Nat) (a7 : Nat) (a8 : Nat) (ns : Nat) (cI : ClassId) (fs : Nat → Int32) (fe : Nat → Int32) (fl : Nat → Int32) (fn : Nat → Int32) (ft : Nat → Int32) (f2 : Nat → Int32) (fv : Nat → Int32) (fp : Nat → Int32) (fc : Nat → Int32) (ps : Nat) (pk : Nat) (sd : Nat) (mo : Int32) (jo : Nat) (vo : Nat) (re : Bool) (ha : Nat) (hd : Nat → Int32) (hc : Nat) (dy : Nat) (la : Nat) (hc0 : cn ≤ 10) (hk : pq < cn) (hpf : pf pq = some pa) (hn : ns ≤ 100) (hdy : dy ≤ 1000000) (hsd : sd ≤ 2970) (hjo : jo ≤ 99) (hvo : vo ≤ 99) (hh : hc ≤ 60) (hco : li_come fc (ns - (li_bef fs (nI dy) ns 0)) (li_bef fs (nI dy) ns 0) = false) (hla : (li_bef fs (nI dy) ns 0 = 0 ∧ la = 0) ∨ (0 < li_bef fs (nI dy) ns 0 ∧ fl (li_bef fs (nI dy) ns 0 - 1) = nI la)) (hla2 : la ≤ 1000) : Met l y_Pa_changed w_Pa_changed ({ frames := 3, cells := 0, slots := 0, locals := 75 }) (va_Pc [.ref xx, .int (nI pq), .int (nI dy)] (wy_M (dC, dI) ga_cl [(xx, .inr (4, [.ref rd, .ref qa, .ref ho, .ref li, .int (nI cn), pr])), (qa, .inl (cP, 10, .inr (.inr (.inr (.inr pf))))), (li, .inr (1, [.ref a0, .ref a1, .ref a2, .ref a3, .ref a4, .ref a5, .ref a6, .ref a7, .ref a8, .int (nI ns)])), (a0, .inl (cI, 100, .inl fs)), (a1, .inl (cI, 100, .inl fe)), (a2, .inl (cI, 100, .inl fl)), (a3, .inl (cI, 100, .inl fn)), (a4, .inl (cI, 100, .inl ft)), (a5, .inl (cI, 100, .inl f2)), (a6, .inl (cI, 100, .inl fv)), (a7, .inl (cI, 100, .inl fp)), (a8, .inl (cI, 100, .inl fc)), (pa, .inr (2, [.int (nI pk), .ref ps, .int (nI sd), .int mo, .int (nI jo), .int (nI vo), .int (bo_I re)])), (ho, .inr (0, [.ref ha, .int (nI hc)])), (ha, .inl (cI, 60, .inl hd))] [(cI, .int), (cP, .object "PatternText$Pattern")] sz)) (va_Qi (fun (r : Int32) (_ : Unit) => r = nI (ns - (li_bef fs (nI dy) ns 0))) (fun _ => wy_N (dC, dI) ga_cl [(cI, .int), (cP, .object "PatternText$Pattern")] (va_A [(xx, .inr (4, [.ref rd, .ref qa, .ref ho, .ref li, .int (nI cn), pr])), (qa, .inl (cP, 10, .inr (.inr (.inr (.inr pf))))), (li, .inr (1, [.ref a0, .ref a1, .ref a2, .ref a3, .ref a4, .ref a5, .ref a6, .ref a7, .ref a8, .int (nI ns)])), (a0, .inl (cI, 100, .inl fs)), (a1, .inl (cI, 100, .inl fe)), (a2, .inl (cI, 100, .inl fl)), (a3, .inl (cI, 100, .inl fn)), (a4, .inl (cI, 100, .inl ft)), (a5, .inl (cI, 100, .inl f2)), (a6, .inl (cI, 100, .inl fv)), (a7, .inl (cI, 100, .inl fp)), (a8, .inl (cI, 100, .inl fc)), (pa, .inr (2, [.int (nI pk), .ref ps, .int (nI sd), .int mo, .int (nI jo), .int (nI vo), .int (bo_I re)])), (ho, .inr (0, [.ref ha, .int (nI hc)])), (ha, .inl (cI, 60, .inl hd))] sz) [(xx, .inr (4, [.ref rd, .ref qa, .ref ho, .ref li, .int (nI cn), pr])), (qa, .inl (cP, 10, .inr (.inr (.inr (.inr pf))))), (li, .inr (1, [.ref a0, .ref a1, .ref a2, .ref a3, .ref a4, .ref a5, .ref a6, .ref a7, .ref a8, .int (nI ((li_go pk sd mo jo vo re hd hc (ns - (li_bef fs (nI dy) ns 0)) 1 dy la (li_bef fs (nI dy) ns 0, fs, fe, fl, fn, ft, f2, fv, fp, fc)).1))])), (a0, .inl (cI, 100, .inl ((li_go pk sd mo jo vo re hd hc (ns - (li_bef fs (nI dy) ns 0)) 1 dy la (li_bef fs (nI dy) ns 0, fs, fe, fl, fn, ft, f2, fv, fp, fc)).2.1))), (a1, .inl (cI, 100, .inl ((li_go pk sd mo jo vo re hd hc (ns - (li_bef fs (nI dy) ns 0)) 1 dy la (li_bef fs (nI dy) ns 0, fs, fe, fl, fn, ft, f2, fv, fp, fc)).2.2.1))), (a2, .inl (cI, 100, .inl ((li_go pk sd mo jo vo re hd hc (ns - (li_bef fs (nI dy) ns 0)) 1 dy la (li_bef fs (nI dy) ns 0, fs, fe, fl, fn, ft, f2, fv, fp, fc)).2.2.2.1))), (a3, .inl (cI, 100, .inl ((li_go pk sd mo jo vo re hd hc (ns - (li_bef fs (nI dy) ns 0)) 1 dy la (li_bef fs (nI dy) ns 0, fs, fe, fl, fn, ft, f2, fv, fp, fc)).2.2.2.2.1))), (a4, .inl (cI, 100, .inl ((li_go pk sd mo jo vo re hd hc (ns - (li_bef fs (nI dy) ns 0)) 1 dy la (li_bef fs (nI dy) ns 0, fs, fe, fl, fn, ft, f2, fv, fp, fc)).2.2.2.2.2.1))), (a5, .inl (cI, 100, .inl ((li_go pk sd mo jo vo re hd hc (ns - (li_bef fs (nI dy) ns 0)) 1 dy la (li_bef fs (nI dy) ns 0, fs, fe, fl, fn, ft, f2, fv, fp, fc)).2.2.2.2.2.2.1))), (a6, .inl (cI, 100, .inl ((li_go pk sd mo jo vo re hd hc (ns - (li_bef fs (nI dy) ns 0)) 1 dy la (li_bef fs (nI dy) ns 0, fs, fe, fl, fn, ft, f2, fv, fp, fc)).2.2.2.2.2.2.2.1))), (a7, .inl (cI, 100, .inl ((li_go pk sd mo jo vo re hd hc (ns - (li_bef fs (nI dy) ns 0)) 1 dy la (li_bef fs (nI dy) ns 0, fs, fe, fl, fn, ft, f2, fv, fp, fc)).2.2.2.2.2.2.2.2.1))), (a8, .inl (cI, 100, .inl ((li_go pk sd mo jo vo re hd hc (ns - (li_bef fs (nI dy) ns 0)) 1 dy la (li_bef fs (nI dy) ns 0, fs, fe, fl, fn, ft, f2, fv, fp, fc)).2.2.2.2.2.2.2.2.2))), (pa, .inr (2, [.int (nI pk), .ref ps, .int (nI sd), .int mo, .int (nI jo), .int (nI vo), .int (bo_I re)])), (ho, .inr (0, [.ref ha, .int (nI hc)])), (ha, .inl (cI, 60, .inl hd))]) (va_A [(xx, .inr (4, [.ref rd, .ref qa, .ref ho, .ref li, .int (nI cn), pr])), (qa, .inl (cP, 10, .inr (.inr (.inr (.inr pf))))), (li, .inr (1, [.ref a0, .ref a1, .ref a2, .ref a3, .ref a4, .ref a5, .ref a6, .ref a7, .ref a8, .int (nI ns)])), (a0, .inl (cI, 100, .inl fs)), (a1, .inl (cI, 100, .inl fe)), (a2, .inl (cI, 100, .inl fl)), (a3, .inl (cI, 100, .inl fn)), (a4, .inl (cI, 100, .inl ft)), (a5, .inl (cI, 100, .inl f2)), (a6, .inl (cI, 100, .inl fv)), (a7, .inl (cI, 100, .inl fp)), (a8, .inl (cI, 100, .inl fc)), (pa, .inr (2, [.int (nI pk), .ref ps, .int (nI sd), .int mo, .int (nI jo), .int (nI vo), .int (bo_I re)])), (ho, .inr (0, [.ref ha, .int (nI hc)])), (ha, .inl (cI, 60, .inl hd))] sz)) 0 0 (va_A [(xx, .inr (4, [.ref rd, .ref qa, .ref ho, .ref li, .int (nI cn), pr])), (qa, .inl (cP, 10, .inr (.inr (.inr (.inr pf))))), (li, .inr (1, [.ref a0, .ref a1, .ref a2, .ref a3, .ref a4, .ref a5, .ref a6, .ref a7, .ref a8, .int (nI ns)])), (a0, .inl (cI, 100, .inl fs)), (a1, .inl (cI, 100, .inl fe)), (a2, .inl (cI, 100, .inl fl)), (a3, .inl (cI, 100, .inl fn)), (a4, .inl (cI, 100, .inl ft)), (a5, .inl (cI, 100, .inl f2)), (a6, .inl (cI, 100, .inl fv)), (a7, .inl (cI, 100, .inl fp)), (a8, .inl (cI, 100, .inl fc)), (pa, .inr (2, [.int (nI pk), .ref ps, .int (nI sd), .int mo, .int (nI jo), .int (nI vo), .int (bo_I re)])), (ho, .inr (0, [.ref ha, .int (nI hc)])), (ha, .inl (cI, 60, .inl hd))] sz) := by
  refine Met.ofW (cc := b_Pa_changed) (maxL := 6) (ret := (some .int)) (by decide) rfl ?_
  intro p e s m args below meth c s₁ B hml hv
  obtain ⟨rfl, hsz, hP, hK, hN, hD0⟩ := hv
  have hx := B.exec
  have hb := B.bytes
  have hr := B.returns
  have hts : ∀ w ∈ ga_tbl, w.before _ s = true := fun w h => atoms_spec (ws := w_Pa_changed) B.pre w (List.mem_cons_of_mem _ h)
  have hown : s.vm.findClass "PatternText" = some m.cls := findClass_of_methodNamed B.named
  have hlocks := B.notSynchronized
  subst hsz
  have hD := hD0.self (sz := s.heap.size)
  generalize hAe : va_A [(xx, .inr (4, [.ref rd, .ref qa, .ref ho, .ref li, .int (nI cn), pr])), (qa, .inl (cP, 10, .inr (.inr (.inr (.inr pf))))), (li, .inr (1, [.ref a0, .ref a1, .ref a2, .ref a3, .ref a4, .ref a5, .ref a6, .ref a7, .ref a8, .int (nI ns)])), (a0, .inl (cI, 100, .inl fs)), (a1, .inl (cI, 100, .inl fe)), (a2, .inl (cI, 100, .inl fl)), (a3, .inl (cI, 100, .inl fn)), (a4, .inl (cI, 100, .inl ft)), (a5, .inl (cI, 100, .inl f2)), (a6, .inl (cI, 100, .inl fv)), (a7, .inl (cI, 100, .inl fp)), (a8, .inl (cI, 100, .inl fc)), (pa, .inr (2, [.int (nI pk), .ref ps, .int (nI sd), .int mo, .int (nI jo), .int (nI vo), .int (bo_I re)])), (ho, .inr (0, [.ref ha, .int (nI hc)])), (ha, .inl (cI, 60, .inl hd))] s.heap.size = A at hD ⊢
  have hA : ∀ q : Nat, s.heap.size ≤ q → A q := fun q h => by rw [← hAe]; exact Or.inr h
  have hS : va_S A s.heap s.heap [] := va_S.rf
  have hl := lv_entry ([.ref xx, .int (nI pq), .int (nI dy)]) (n := 6) (Nat.le_of_ble_eq_true rfl)
  rw [lg_entry_eq]
  generalize (lg_sl ([.ref xx, .int (nI pq), .int (nI dy)]) ++ List.replicate (6 - (lg_sl ([.ref xx, .int (nI pq), .int (nI dy)])).length) Slot.unset).toArray = ls at hl ⊢
  have hl : lv_has ls 6 [(0, .ref xx), (1, .int (nI pq)), (2, .int (nI dy))] := hl
  obtain ⟨Q0, hQ⟩ : ∃ Q0 : State → Prop, Q0 = MQ below (va_Qi (fun (r : Int32) (_ : Unit) => r = nI (ns - (li_bef fs (nI dy) ns 0))) (fun _ => wy_N (dC, dI) ga_cl [(cI, .int), (cP, .object "PatternText$Pattern")] A [(xx, .inr (4, [.ref rd, .ref qa, .ref ho, .ref li, .int (nI cn), pr])), (qa, .inl (cP, 10, .inr (.inr (.inr (.inr pf))))), (li, .inr (1, [.ref a0, .ref a1, .ref a2, .ref a3, .ref a4, .ref a5, .ref a6, .ref a7, .ref a8, .int (nI ((li_go pk sd mo jo vo re hd hc (ns - (li_bef fs (nI dy) ns 0)) 1 dy la (li_bef fs (nI dy) ns 0, fs, fe, fl, fn, ft, f2, fv, fp, fc)).1))])), (a0, .inl (cI, 100, .inl ((li_go pk sd mo jo vo re hd hc (ns - (li_bef fs (nI dy) ns 0)) 1 dy la (li_bef fs (nI dy) ns 0, fs, fe, fl, fn, ft, f2, fv, fp, fc)).2.1))), (a1, .inl (cI, 100, .inl ((li_go pk sd mo jo vo re hd hc (ns - (li_bef fs (nI dy) ns 0)) 1 dy la (li_bef fs (nI dy) ns 0, fs, fe, fl, fn, ft, f2, fv, fp, fc)).2.2.1))), (a2, .inl (cI, 100, .inl ((li_go pk sd mo jo vo re hd hc (ns - (li_bef fs (nI dy) ns 0)) 1 dy la (li_bef fs (nI dy) ns 0, fs, fe, fl, fn, ft, f2, fv, fp, fc)).2.2.2.1))), (a3, .inl (cI, 100, .inl ((li_go pk sd mo jo vo re hd hc (ns - (li_bef fs (nI dy) ns 0)) 1 dy la (li_bef fs (nI dy) ns 0, fs, fe, fl, fn, ft, f2, fv, fp, fc)).2.2.2.2.1))), (a4, .inl (cI, 100, .inl ((li_go pk sd mo jo vo re hd hc (ns - (li_bef fs (nI dy) ns 0)) 1 dy la (li_bef fs (nI dy) ns 0, fs, fe, fl, fn, ft, f2, fv, fp, fc)).2.2.2.2.2.1))), (a5, .inl (cI, 100, .inl ((li_go pk sd mo jo vo re hd hc (ns - (li_bef fs (nI dy) ns 0)) 1 dy la (li_bef fs (nI dy) ns 0, fs, fe, fl, fn, ft, f2, fv, fp, fc)).2.2.2.2.2.2.1))), (a6, .inl (cI, 100, .inl ((li_go pk sd mo jo vo re hd hc (ns - (li_bef fs (nI dy) ns 0)) 1 dy la (li_bef fs (nI dy) ns 0, fs, fe, fl, fn, ft, f2, fv, fp, fc)).2.2.2.2.2.2.2.1))), (a7, .inl (cI, 100, .inl ((li_go pk sd mo jo vo re hd hc (ns - (li_bef fs (nI dy) ns 0)) 1 dy la (li_bef fs (nI dy) ns 0, fs, fe, fl, fn, ft, f2, fv, fp, fc)).2.2.2.2.2.2.2.2.1))), (a8, .inl (cI, 100, .inl ((li_go pk sd mo jo vo re hd hc (ns - (li_bef fs (nI dy) ns 0)) 1 dy la (li_bef fs (nI dy) ns 0, fs, fe, fl, fn, ft, f2, fv, fp, fc)).2.2.2.2.2.2.2.2.2))), (pa, .inr (2, [.int (nI pk), .ref ps, .int (nI sd), .int mo, .int (nI jo), .int (nI vo), .int (bo_I re)])), (ho, .inr (0, [.ref ha, .int (nI hc)])), (ha, .inl (cI, 60, .inl hd))]) A) ([.ref xx, .int (nI pq), .int (nI dy)] : List Value).toArray s 0 0 A := ⟨_, rfl⟩
  show W p l e ({ frames := 3, cells := 0, slots := 0, locals := 75 }) s m ([.ref xx, .int (nI pq), .int (nI dy)] : List Value).toArray below meth c s.heap [] 0 0 (MQ below (va_Qi (fun (r : Int32) (_ : Unit) => r = nI (ns - (li_bef fs (nI dy) ns 0))) (fun _ => wy_N (dC, dI) ga_cl [(cI, .int), (cP, .object "PatternText$Pattern")] A [(xx, .inr (4, [.ref rd, .ref qa, .ref ho, .ref li, .int (nI cn), pr])), (qa, .inl (cP, 10, .inr (.inr (.inr (.inr pf))))), (li, .inr (1, [.ref a0, .ref a1, .ref a2, .ref a3, .ref a4, .ref a5, .ref a6, .ref a7, .ref a8, .int (nI ((li_go pk sd mo jo vo re hd hc (ns - (li_bef fs (nI dy) ns 0)) 1 dy la (li_bef fs (nI dy) ns 0, fs, fe, fl, fn, ft, f2, fv, fp, fc)).1))])), (a0, .inl (cI, 100, .inl ((li_go pk sd mo jo vo re hd hc (ns - (li_bef fs (nI dy) ns 0)) 1 dy la (li_bef fs (nI dy) ns 0, fs, fe, fl, fn, ft, f2, fv, fp, fc)).2.1))), (a1, .inl (cI, 100, .inl ((li_go pk sd mo jo vo re hd hc (ns - (li_bef fs (nI dy) ns 0)) 1 dy la (li_bef fs (nI dy) ns 0, fs, fe, fl, fn, ft, f2, fv, fp, fc)).2.2.1))), (a2, .inl (cI, 100, .inl ((li_go pk sd mo jo vo re hd hc (ns - (li_bef fs (nI dy) ns 0)) 1 dy la (li_bef fs (nI dy) ns 0, fs, fe, fl, fn, ft, f2, fv, fp, fc)).2.2.2.1))), (a3, .inl (cI, 100, .inl ((li_go pk sd mo jo vo re hd hc (ns - (li_bef fs (nI dy) ns 0)) 1 dy la (li_bef fs (nI dy) ns 0, fs, fe, fl, fn, ft, f2, fv, fp, fc)).2.2.2.2.1))), (a4, .inl (cI, 100, .inl ((li_go pk sd mo jo vo re hd hc (ns - (li_bef fs (nI dy) ns 0)) 1 dy la (li_bef fs (nI dy) ns 0, fs, fe, fl, fn, ft, f2, fv, fp, fc)).2.2.2.2.2.1))), (a5, .inl (cI, 100, .inl ((li_go pk sd mo jo vo re hd hc (ns - (li_bef fs (nI dy) ns 0)) 1 dy la (li_bef fs (nI dy) ns 0, fs, fe, fl, fn, ft, f2, fv, fp, fc)).2.2.2.2.2.2.1))), (a6, .inl (cI, 100, .inl ((li_go pk sd mo jo vo re hd hc (ns - (li_bef fs (nI dy) ns 0)) 1 dy la (li_bef fs (nI dy) ns 0, fs, fe, fl, fn, ft, f2, fv, fp, fc)).2.2.2.2.2.2.2.1))), (a7, .inl (cI, 100, .inl ((li_go pk sd mo jo vo re hd hc (ns - (li_bef fs (nI dy) ns 0)) 1 dy la (li_bef fs (nI dy) ns 0, fs, fe, fl, fn, ft, f2, fv, fp, fc)).2.2.2.2.2.2.2.2.1))), (a8, .inl (cI, 100, .inl ((li_go pk sd mo jo vo re hd hc (ns - (li_bef fs (nI dy) ns 0)) 1 dy la (li_bef fs (nI dy) ns 0, fs, fe, fl, fn, ft, f2, fv, fp, fc)).2.2.2.2.2.2.2.2.2))), (pa, .inr (2, [.int (nI pk), .ref ps, .int (nI sd), .int mo, .int (nI jo), .int (nI vo), .int (bo_I re)])), (ho, .inr (0, [.ref ha, .int (nI hc)])), (ha, .inl (cI, 60, .inl hd))]) A) ([.ref xx, .int (nI pq), .int (nI dy)] : List Value).toArray s 0 0 A) (F0 m 0 ls [])
  rw [← hQ]
  have hday : mo_day (nI dy) = true := by rw [mo_day_nI (by omega), decide_eq_true hdy]
  have hlb := li_bef_le (fs := fs) (x := nI dy) ns 0
  refine lv_aload_n hx hb d_Pa_changed_0 rfl (lv_at hl 0 rfl) ?_
  refine lv_iload_n hx hb d_Pa_changed_1 rfl (lv_at hl 1 rfl) ?_
  refine va_csq (va_runV (As := [.int (nI pq)]) (rest := []) ⟨hx, hb, hml, hown, hts⟩ (c_Pa_patternOf_s l dC dI xx rd qa ho li cn pr cP pf pq pa (by omega) (hk) (hpf)) (cwV 1 hts (ga_V kw_346 kw_348 kw_11 kw_34 (ga_in kw_349)) rfl rfl rfl (by decide +kernel) ⟨Nat.le_of_ble_eq_true rfl, Nat.le_of_ble_eq_true rfl⟩) (wy_preV 0 (hP.sub (ws' := [(xx, .inr (4, [.ref rd, .ref qa, .ref ho, .ref li, .int (nI cn), pr])), (qa, .inl (cP, 10, .inr (.inr (.inr (.inr pf)))))]) [0, 1] rfl) (hK.sub (tys' := [(cP, .object "PatternText$Pattern")]) [1] rfl) hN (ci := 4) rfl rfl rfl) rfl rfl hl.1 rfl (lv_room (Nat.le_of_ble_eq_true rfl)) d_Pa_changed_2 ⟨Nat.le_of_ble_eq_true rfl, Nat.le_of_ble_eq_true rfl⟩).run (fun r_2 h_2 => ?_)
  subst h_2
  refine lv_astore_n (lv' := [(3, .ref pa), (0, .ref xx), (1, .int (nI pq)), (2, .int (nI dy))]) hx hb d_Pa_changed_5 rfl hl (by decide) rfl (fun ls hl => ?_)
  refine lv_aload_n hx hb d_Pa_changed_6 rfl (lv_at hl 0 rfl) ?_
  refine lv_ifnull hx hb d_Pa_changed_7 ?_
  refine lv_iload_n hx hb d_Pa_changed_10 rfl (lv_at hl 3 rfl) ?_
  refine vp_callSi (va_runS (As := [.int (nI dy)]) (rest := []) ⟨hx, hb, hml, hown, hts⟩ (c_Pa_isDay l dC dI (nI dy) ) (cwS 1 hts (ga_S kw_350 kw_351 kw_34 (ga_in kw_352)) rfl rfl rfl (by decide +kernel) ⟨Nat.le_of_ble_eq_true rfl, Nat.le_of_ble_eq_true rfl⟩) (wy_preS (hP.sub (ws' := []) [] rfl) (hK.sub (tys' := []) [] rfl) hN) rfl rfl hl.1 rfl (lv_room (Nat.le_of_ble_eq_true rfl)) d_Pa_changed_11 ⟨Nat.le_of_ble_eq_true rfl, Nat.le_of_ble_eq_true rfl⟩).run (fun r_11 h_11 => ?_)
  subst h_11
  refine wy_ifneB (tgt := 19) hx hb d_Pa_changed_14 (by decide) (fun c_14 => ?_) (fun c_14 => ?_)
  · refine lv_aload_n hx hb d_Pa_changed_19 rfl (lv_at hl 1 rfl) ?_
    refine va_get (D := (dC, dI)) (ci := 4) (v := .ref li) (C := "PatternText") (T := F_Pa) (N := 6) hx hb hts iw_Pa hown hK hP 0 rfl rfl 3 (by decide) (hts _ kw_158) (fun _ h9 => h9) rfl d_Pa_changed_20 ?_
    refine lv_iload_n hx hb d_Pa_changed_23 rfl (lv_at hl 3 rfl) ?_
    refine vp_callSi (va_runV (As := [.int (nI dy)]) (rest := []) ⟨hx, hb, hml, hown, hts⟩ (c_Li_countBefore l dC dI li a0 a1 a2 a3 a4 a5 a6 a7 a8 ns cI fs (nI dy) (by omega)) (cwV 1 hts (ga_V kw_396 kw_397 kw_398 kw_37 (ga_in kw_399)) rfl rfl rfl (by decide +kernel) ⟨Nat.le_of_ble_eq_true rfl, Nat.le_of_ble_eq_true rfl⟩) (wy_preV 0 (hP.sub (ws' := [(li, .inr (1, [.ref a0, .ref a1, .ref a2, .ref a3, .ref a4, .ref a5, .ref a6, .ref a7, .ref a8, .int (nI ns)])), (a0, .inl (cI, 100, .inl fs))]) [2, 3] rfl) (hK.sub (tys' := [(cI, .int)]) [0] rfl) hN (ci := 1) rfl rfl rfl) rfl rfl hl.1 rfl (lv_room (Nat.le_of_ble_eq_true rfl)) d_Pa_changed_24 ⟨Nat.le_of_ble_eq_true rfl, Nat.le_of_ble_eq_true rfl⟩).run (fun r_24 h_24 => ?_)
    subst h_24
    refine lv_istore (lv' := [(4, .int (nI (li_bef fs (nI dy) ns 0))), (3, .ref pa), (0, .ref xx), (1, .int (nI pq)), (2, .int (nI dy))]) hx hb d_Pa_changed_27 hl (by decide) rfl (fun ls hl => ?_)
    refine lv_aload_n hx hb d_Pa_changed_29 rfl (lv_at hl 2 rfl) ?_
    refine va_get (D := (dC, dI)) (ci := 4) (v := .ref li) (C := "PatternText") (T := F_Pa) (N := 6) hx hb hts iw_Pa hown hK hP 0 rfl rfl 3 (by decide) (hts _ kw_158) (fun _ h9 => h9) rfl d_Pa_changed_30 ?_
    refine lv_iload hx hb d_Pa_changed_33 (lv_at hl 0 rfl) ?_
    refine vp_callSi (va_runV (As := [.int (nI (li_bef fs (nI dy) ns 0))]) (rest := []) ⟨hx, hb, hml, hown, hts⟩ (c_Li_hasComeFrom l dC dI li a0 a1 a2 a3 a4 a5 a6 a7 a8 ns cI fc (li_bef fs (nI dy) ns 0) (by omega) (by omega)) (cwV 1 hts (ga_V kw_400 kw_401 kw_402 kw_37 (ga_in kw_403)) rfl rfl rfl (by decide +kernel) ⟨Nat.le_of_ble_eq_true rfl, Nat.le_of_ble_eq_true rfl⟩) (wy_preV 0 (hP.sub (ws' := [(li, .inr (1, [.ref a0, .ref a1, .ref a2, .ref a3, .ref a4, .ref a5, .ref a6, .ref a7, .ref a8, .int (nI ns)])), (a8, .inl (cI, 100, .inl fc))]) [2, 11] rfl) (hK.sub (tys' := [(cI, .int)]) [0] rfl) hN (ci := 1) rfl rfl rfl) rfl rfl hl.1 rfl (lv_room (Nat.le_of_ble_eq_true rfl)) d_Pa_changed_35 ⟨Nat.le_of_ble_eq_true rfl, Nat.le_of_ble_eq_true rfl⟩).run (fun r_35 h_35 => ?_)
    subst h_35
    refine wy_ifeqB (tgt := 43) hx hb d_Pa_changed_38 (by decide) (fun c_38 => ?_) (fun c_38 => ?_)
    · refine lv_aload_n hx hb d_Pa_changed_43 rfl (lv_at hl 2 rfl) ?_
      refine va_get (D := (dC, dI)) (ci := 4) (v := .ref li) (C := "PatternText") (T := F_Pa) (N := 6) hx hb hts iw_Pa hown hK hP 0 rfl rfl 3 (by decide) (hts _ kw_158) (fun _ h9 => h9) rfl d_Pa_changed_44 ?_
      refine va_getN (D := (dC, dI)) (ci := 1) (v := .int (nI ns)) (C := "PatternText$IssueList") (T := F_Li) (N := 10) hx hb hts iw_Li hown hK hP 2 rfl rfl 9 (by decide) (nw_133 hN) (fun _ h9 => h9) rfl d_Pa_changed_47 ?_
      refine lv_iload hx hb d_Pa_changed_50 (lv_at hl 0 rfl) ?_
      refine wy_isub hx hb ns (li_bef fs (nI dy) ns 0) (by omega) d_Pa_changed_52 ?_
      refine lv_istore (lv' := [(5, .int (nI (ns - (li_bef fs (nI dy) ns 0)))), (4, .int (nI (li_bef fs (nI dy) ns 0))), (3, .ref pa), (0, .ref xx), (1, .int (nI pq)), (2, .int (nI dy))]) hx hb d_Pa_changed_53 hl (by decide) rfl (fun ls hl => ?_)
      refine lv_aload_n hx hb d_Pa_changed_55 rfl (lv_at hl 3 rfl) ?_
      refine va_get (D := (dC, dI)) (ci := 4) (v := .ref li) (C := "PatternText") (T := F_Pa) (N := 6) hx hb hts iw_Pa hown hK hP 0 rfl rfl 3 (by decide) (hts _ kw_158) (fun _ h9 => h9) rfl d_Pa_changed_56 ?_
      refine lv_iload hx hb d_Pa_changed_59 (lv_at hl 1 rfl) ?_
      refine wy_callv (wr := [(xx, .inr (4, [.ref rd, .ref qa, .ref ho, .ref li, .int (nI cn), pr])), (qa, .inl (cP, 10, .inr (.inr (.inr (.inr pf))))), (a0, .inl (cI, 100, .inl fs)), (a1, .inl (cI, 100, .inl fe)), (a2, .inl (cI, 100, .inl fl)), (a3, .inl (cI, 100, .inl fn)), (a4, .inl (cI, 100, .inl ft)), (a5, .inl (cI, 100, .inl f2)), (a6, .inl (cI, 100, .inl fv)), (a7, .inl (cI, 100, .inl fp)), (a8, .inl (cI, 100, .inl fc)), (pa, .inr (2, [.int (nI pk), .ref ps, .int (nI sd), .int mo, .int (nI jo), .int (nI vo), .int (bo_I re)])), (ho, .inr (0, [.ref ha, .int (nI hc)])), (ha, .inl (cI, 60, .inl hd))]) (w1 := [(li, .inr (1, [.ref a0, .ref a1, .ref a2, .ref a3, .ref a4, .ref a5, .ref a6, .ref a7, .ref a8, .int (nI (li_bef fs (nI dy) ns 0))]))]) (va_runV (As := [.int (nI (li_bef fs (nI dy) ns 0))]) (rest := []) ⟨hx, hb, hml, hown, hts⟩ (c_Li_cutTo l dC dI s.heap.size li a0 a1 a2 a3 a4 a5 a6 a7 a8 ns (li_bef fs (nI dy) ns 0) ) (cwV 1 hts (ga_V kw_354 kw_355 kw_356 kw_37 (ga_in kw_357)) rfl rfl rfl (by decide +kernel) ⟨Nat.le_of_ble_eq_true rfl, Nat.le_of_ble_eq_true rfl⟩) (wy_mreV 0 (hP.sub (ws' := [(li, .inr (1, [.ref a0, .ref a1, .ref a2, .ref a3, .ref a4, .ref a5, .ref a6, .ref a7, .ref a8, .int (nI ns)]))]) [2] rfl) (hK.sub (tys' := []) [] rfl) hN (hD.sub (ws' := [(li, .inr (1, [.ref a0, .ref a1, .ref a2, .ref a3, .ref a4, .ref a5, .ref a6, .ref a7, .ref a8, .int (nI ns)]))]) [2] (by decide) rfl) (ci := 1) rfl rfl rfl) rfl rfl hl.1 rfl (lv_room (Nat.le_of_ble_eq_true rfl)) d_Pa_changed_61 ⟨Nat.le_of_ble_eq_true rfl, Nat.le_of_ble_eq_true rfl⟩) hP hD hS hA [2] [0, 1, 3, 4, 5, 6, 7, 8, 9, 10, 11, 12, 13, 14] rfl rfl (by decide) (by decide) (fun H locs hP hD hS => ?_)
      have hP := hP.sub (ws' := [(xx, .inr (4, [.ref rd, .ref qa, .ref ho, .ref li, .int (nI cn), pr])), (qa, .inl (cP, 10, .inr (.inr (.inr (.inr pf))))), (li, .inr (1, [.ref a0, .ref a1, .ref a2, .ref a3, .ref a4, .ref a5, .ref a6, .ref a7, .ref a8, .int (nI (li_bef fs (nI dy) ns 0))])), (a0, .inl (cI, 100, .inl fs)), (a1, .inl (cI, 100, .inl fe)), (a2, .inl (cI, 100, .inl fl)), (a3, .inl (cI, 100, .inl fn)), (a4, .inl (cI, 100, .inl ft)), (a5, .inl (cI, 100, .inl f2)), (a6, .inl (cI, 100, .inl fv)), (a7, .inl (cI, 100, .inl fp)), (a8, .inl (cI, 100, .inl fc)), (pa, .inr (2, [.int (nI pk), .ref ps, .int (nI sd), .int mo, .int (nI jo), .int (nI vo), .int (bo_I re)])), (ho, .inr (0, [.ref ha, .int (nI hc)])), (ha, .inl (cI, 60, .inl hd))]) [0, 1, 14, 2, 3, 4, 5, 6, 7, 8, 9, 10, 11, 12, 13] rfl
      have hD := hD.sub (ws' := [(xx, .inr (4, [.ref rd, .ref qa, .ref ho, .ref li, .int (nI cn), pr])), (qa, .inl (cP, 10, .inr (.inr (.inr (.inr pf))))), (li, .inr (1, [.ref a0, .ref a1, .ref a2, .ref a3, .ref a4, .ref a5, .ref a6, .ref a7, .ref a8, .int (nI (li_bef fs (nI dy) ns 0))])), (a0, .inl (cI, 100, .inl fs)), (a1, .inl (cI, 100, .inl fe)), (a2, .inl (cI, 100, .inl fl)), (a3, .inl (cI, 100, .inl fn)), (a4, .inl (cI, 100, .inl ft)), (a5, .inl (cI, 100, .inl f2)), (a6, .inl (cI, 100, .inl fv)), (a7, .inl (cI, 100, .inl fp)), (a8, .inl (cI, 100, .inl fc)), (pa, .inr (2, [.int (nI pk), .ref ps, .int (nI sd), .int mo, .int (nI jo), .int (nI vo), .int (bo_I re)])), (ho, .inr (0, [.ref ha, .int (nI hc)])), (ha, .inl (cI, 60, .inl hd))]) [0, 1, 14, 2, 3, 4, 5, 6, 7, 8, 9, 10, 11, 12, 13] (by decide) rfl
      refine lv_aload_n hx hb d_Pa_changed_64 rfl (lv_at hl 3 rfl) ?_
      refine va_get (D := (dC, dI)) (ci := 4) (v := .ref li) (C := "PatternText") (T := F_Pa) (N := 6) hx hb hts iw_Pa hown hK hP 0 rfl rfl 3 (by decide) (hts _ kw_158) (fun _ h9 => h9) rfl d_Pa_changed_65 ?_
      refine lv_aload_n hx hb d_Pa_changed_68 rfl (lv_at hl 2 rfl) ?_
      refine lv_iload_n hx hb d_Pa_changed_69 rfl (lv_at hl 5 rfl) ?_
      refine lv_iload hx hb d_Pa_changed_70 (lv_at hl 0 rfl) ?_
      refine lv_aload_n hx hb d_Pa_changed_72 rfl (lv_at hl 3 rfl) ?_
      refine va_get (D := (dC, dI)) (ci := 4) (v := .ref ho) (C := "PatternText") (T := F_Pa) (N := 6) hx hb hts iw_Pa hown hK hP 0 rfl rfl 2 (by decide) (hts _ kw_157) (fun _ h9 => h9) rfl d_Pa_changed_73 ?_
      refine wy_callv (wr := [(xx, .inr (4, [.ref rd, .ref qa, .ref ho, .ref li, .int (nI cn), pr])), (qa, .inl (cP, 10, .inr (.inr (.inr (.inr pf)))))]) (w1 := [(li, .inr (1, [.ref a0, .ref a1, .ref a2, .ref a3, .ref a4, .ref a5, .ref a6, .ref a7, .ref a8, .int (nI ((li_go pk sd mo jo vo re hd hc (ns - (li_bef fs (nI dy) ns 0)) 1 dy la ((li_bef fs (nI dy) ns 0), fs, fe, fl, fn, ft, f2, fv, fp, fc)).1))])), (a0, .inl (cI, 100, .inl ((li_go pk sd mo jo vo re hd hc (ns - (li_bef fs (nI dy) ns 0)) 1 dy la ((li_bef fs (nI dy) ns 0), fs, fe, fl, fn, ft, f2, fv, fp, fc)).2.1))), (a1, .inl (cI, 100, .inl ((li_go pk sd mo jo vo re hd hc (ns - (li_bef fs (nI dy) ns 0)) 1 dy la ((li_bef fs (nI dy) ns 0), fs, fe, fl, fn, ft, f2, fv, fp, fc)).2.2.1))), (a2, .inl (cI, 100, .inl ((li_go pk sd mo jo vo re hd hc (ns - (li_bef fs (nI dy) ns 0)) 1 dy la ((li_bef fs (nI dy) ns 0), fs, fe, fl, fn, ft, f2, fv, fp, fc)).2.2.2.1))), (a3, .inl (cI, 100, .inl ((li_go pk sd mo jo vo re hd hc (ns - (li_bef fs (nI dy) ns 0)) 1 dy la ((li_bef fs (nI dy) ns 0), fs, fe, fl, fn, ft, f2, fv, fp, fc)).2.2.2.2.1))), (a4, .inl (cI, 100, .inl ((li_go pk sd mo jo vo re hd hc (ns - (li_bef fs (nI dy) ns 0)) 1 dy la ((li_bef fs (nI dy) ns 0), fs, fe, fl, fn, ft, f2, fv, fp, fc)).2.2.2.2.2.1))), (a5, .inl (cI, 100, .inl ((li_go pk sd mo jo vo re hd hc (ns - (li_bef fs (nI dy) ns 0)) 1 dy la ((li_bef fs (nI dy) ns 0), fs, fe, fl, fn, ft, f2, fv, fp, fc)).2.2.2.2.2.2.1))), (a6, .inl (cI, 100, .inl ((li_go pk sd mo jo vo re hd hc (ns - (li_bef fs (nI dy) ns 0)) 1 dy la ((li_bef fs (nI dy) ns 0), fs, fe, fl, fn, ft, f2, fv, fp, fc)).2.2.2.2.2.2.2.1))), (a7, .inl (cI, 100, .inl ((li_go pk sd mo jo vo re hd hc (ns - (li_bef fs (nI dy) ns 0)) 1 dy la ((li_bef fs (nI dy) ns 0), fs, fe, fl, fn, ft, f2, fv, fp, fc)).2.2.2.2.2.2.2.2.1))), (a8, .inl (cI, 100, .inl ((li_go pk sd mo jo vo re hd hc (ns - (li_bef fs (nI dy) ns 0)) 1 dy la ((li_bef fs (nI dy) ns 0), fs, fe, fl, fn, ft, f2, fv, fp, fc)).2.2.2.2.2.2.2.2.2))), (pa, .inr (2, [.int (nI pk), .ref ps, .int (nI sd), .int mo, .int (nI jo), .int (nI vo), .int (bo_I re)])), (ho, .inr (0, [.ref ha, .int (nI hc)])), (ha, .inl (cI, 60, .inl hd))]) (va_runV (As := [.ref pa, .int (nI dy), .int (nI (ns - (li_bef fs (nI dy) ns 0))), .ref ho]) (rest := []) ⟨hx, hb, hml, hown, hts⟩ (c_Li_goOn l dC dI H.size li a0 a1 a2 a3 a4 a5 a6 a7 a8 (li_bef fs (nI dy) ns 0) cI fs fe fl fn ft f2 fv fp fc pa ps pk sd mo jo vo re ho ha hd hc dy (ns - (li_bef fs (nI dy) ns 0)) la (by omega) (hla) (by omega) (by omega) (by omega) (by omega) (by omega) (by omega) (by omega)) (cwV 4 hts (ga_V kw_358 kw_359 kw_360 kw_37 (ga_in kw_361)) rfl rfl rfl (by decide +kernel) ⟨Nat.le_of_ble_eq_true rfl, Nat.le_of_ble_eq_true rfl⟩) (wy_mreV 0 (hP.sub (ws' := [(li, .inr (1, [.ref a0, .ref a1, .ref a2, .ref a3, .ref a4, .ref a5, .ref a6, .ref a7, .ref a8, .int (nI (li_bef fs (nI dy) ns 0))])), (a0, .inl (cI, 100, .inl fs)), (a1, .inl (cI, 100, .inl fe)), (a2, .inl (cI, 100, .inl fl)), (a3, .inl (cI, 100, .inl fn)), (a4, .inl (cI, 100, .inl ft)), (a5, .inl (cI, 100, .inl f2)), (a6, .inl (cI, 100, .inl fv)), (a7, .inl (cI, 100, .inl fp)), (a8, .inl (cI, 100, .inl fc)), (pa, .inr (2, [.int (nI pk), .ref ps, .int (nI sd), .int mo, .int (nI jo), .int (nI vo), .int (bo_I re)])), (ho, .inr (0, [.ref ha, .int (nI hc)])), (ha, .inl (cI, 60, .inl hd))]) [2, 3, 4, 5, 6, 7, 8, 9, 10, 11, 12, 13, 14] rfl) (hK.sub (tys' := [(cI, .int)]) [0] rfl) hN (hD.sub (ws' := [(li, .inr (1, [.ref a0, .ref a1, .ref a2, .ref a3, .ref a4, .ref a5, .ref a6, .ref a7, .ref a8, .int (nI (li_bef fs (nI dy) ns 0))])), (a0, .inl (cI, 100, .inl fs)), (a1, .inl (cI, 100, .inl fe)), (a2, .inl (cI, 100, .inl fl)), (a3, .inl (cI, 100, .inl fn)), (a4, .inl (cI, 100, .inl ft)), (a5, .inl (cI, 100, .inl f2)), (a6, .inl (cI, 100, .inl fv)), (a7, .inl (cI, 100, .inl fp)), (a8, .inl (cI, 100, .inl fc)), (pa, .inr (2, [.int (nI pk), .ref ps, .int (nI sd), .int mo, .int (nI jo), .int (nI vo), .int (bo_I re)])), (ho, .inr (0, [.ref ha, .int (nI hc)])), (ha, .inl (cI, 60, .inl hd))]) [2, 3, 4, 5, 6, 7, 8, 9, 10, 11, 12, 13, 14] (by decide) rfl) (ci := 1) rfl rfl rfl) rfl rfl hl.1 rfl (lv_room (Nat.le_of_ble_eq_true rfl)) d_Pa_changed_76 ⟨Nat.le_of_ble_eq_true rfl, Nat.le_of_ble_eq_true rfl⟩) hP hD hS hA [2, 3, 4, 5, 6, 7, 8, 9, 10, 11, 12, 13, 14] [0, 1] rfl rfl (by decide) (by decide) (fun H locs hP hD hS => ?_)
      have hP := hP.sub (ws' := [(xx, .inr (4, [.ref rd, .ref qa, .ref ho, .ref li, .int (nI cn), pr])), (qa, .inl (cP, 10, .inr (.inr (.inr (.inr pf))))), (li, .inr (1, [.ref a0, .ref a1, .ref a2, .ref a3, .ref a4, .ref a5, .ref a6, .ref a7, .ref a8, .int (nI ((li_go pk sd mo jo vo re hd hc (ns - (li_bef fs (nI dy) ns 0)) 1 dy la ((li_bef fs (nI dy) ns 0), fs, fe, fl, fn, ft, f2, fv, fp, fc)).1))])), (a0, .inl (cI, 100, .inl ((li_go pk sd mo jo vo re hd hc (ns - (li_bef fs (nI dy) ns 0)) 1 dy la ((li_bef fs (nI dy) ns 0), fs, fe, fl, fn, ft, f2, fv, fp, fc)).2.1))), (a1, .inl (cI, 100, .inl ((li_go pk sd mo jo vo re hd hc (ns - (li_bef fs (nI dy) ns 0)) 1 dy la ((li_bef fs (nI dy) ns 0), fs, fe, fl, fn, ft, f2, fv, fp, fc)).2.2.1))), (a2, .inl (cI, 100, .inl ((li_go pk sd mo jo vo re hd hc (ns - (li_bef fs (nI dy) ns 0)) 1 dy la ((li_bef fs (nI dy) ns 0), fs, fe, fl, fn, ft, f2, fv, fp, fc)).2.2.2.1))), (a3, .inl (cI, 100, .inl ((li_go pk sd mo jo vo re hd hc (ns - (li_bef fs (nI dy) ns 0)) 1 dy la ((li_bef fs (nI dy) ns 0), fs, fe, fl, fn, ft, f2, fv, fp, fc)).2.2.2.2.1))), (a4, .inl (cI, 100, .inl ((li_go pk sd mo jo vo re hd hc (ns - (li_bef fs (nI dy) ns 0)) 1 dy la ((li_bef fs (nI dy) ns 0), fs, fe, fl, fn, ft, f2, fv, fp, fc)).2.2.2.2.2.1))), (a5, .inl (cI, 100, .inl ((li_go pk sd mo jo vo re hd hc (ns - (li_bef fs (nI dy) ns 0)) 1 dy la ((li_bef fs (nI dy) ns 0), fs, fe, fl, fn, ft, f2, fv, fp, fc)).2.2.2.2.2.2.1))), (a6, .inl (cI, 100, .inl ((li_go pk sd mo jo vo re hd hc (ns - (li_bef fs (nI dy) ns 0)) 1 dy la ((li_bef fs (nI dy) ns 0), fs, fe, fl, fn, ft, f2, fv, fp, fc)).2.2.2.2.2.2.2.1))), (a7, .inl (cI, 100, .inl ((li_go pk sd mo jo vo re hd hc (ns - (li_bef fs (nI dy) ns 0)) 1 dy la ((li_bef fs (nI dy) ns 0), fs, fe, fl, fn, ft, f2, fv, fp, fc)).2.2.2.2.2.2.2.2.1))), (a8, .inl (cI, 100, .inl ((li_go pk sd mo jo vo re hd hc (ns - (li_bef fs (nI dy) ns 0)) 1 dy la ((li_bef fs (nI dy) ns 0), fs, fe, fl, fn, ft, f2, fv, fp, fc)).2.2.2.2.2.2.2.2.2))), (pa, .inr (2, [.int (nI pk), .ref ps, .int (nI sd), .int mo, .int (nI jo), .int (nI vo), .int (bo_I re)])), (ho, .inr (0, [.ref ha, .int (nI hc)])), (ha, .inl (cI, 60, .inl hd))]) [0, 1, 2, 3, 4, 5, 6, 7, 8, 9, 10, 11, 12, 13, 14] rfl
      have hD := hD.sub (ws' := [(xx, .inr (4, [.ref rd, .ref qa, .ref ho, .ref li, .int (nI cn), pr])), (qa, .inl (cP, 10, .inr (.inr (.inr (.inr pf))))), (li, .inr (1, [.ref a0, .ref a1, .ref a2, .ref a3, .ref a4, .ref a5, .ref a6, .ref a7, .ref a8, .int (nI ((li_go pk sd mo jo vo re hd hc (ns - (li_bef fs (nI dy) ns 0)) 1 dy la ((li_bef fs (nI dy) ns 0), fs, fe, fl, fn, ft, f2, fv, fp, fc)).1))])), (a0, .inl (cI, 100, .inl ((li_go pk sd mo jo vo re hd hc (ns - (li_bef fs (nI dy) ns 0)) 1 dy la ((li_bef fs (nI dy) ns 0), fs, fe, fl, fn, ft, f2, fv, fp, fc)).2.1))), (a1, .inl (cI, 100, .inl ((li_go pk sd mo jo vo re hd hc (ns - (li_bef fs (nI dy) ns 0)) 1 dy la ((li_bef fs (nI dy) ns 0), fs, fe, fl, fn, ft, f2, fv, fp, fc)).2.2.1))), (a2, .inl (cI, 100, .inl ((li_go pk sd mo jo vo re hd hc (ns - (li_bef fs (nI dy) ns 0)) 1 dy la ((li_bef fs (nI dy) ns 0), fs, fe, fl, fn, ft, f2, fv, fp, fc)).2.2.2.1))), (a3, .inl (cI, 100, .inl ((li_go pk sd mo jo vo re hd hc (ns - (li_bef fs (nI dy) ns 0)) 1 dy la ((li_bef fs (nI dy) ns 0), fs, fe, fl, fn, ft, f2, fv, fp, fc)).2.2.2.2.1))), (a4, .inl (cI, 100, .inl ((li_go pk sd mo jo vo re hd hc (ns - (li_bef fs (nI dy) ns 0)) 1 dy la ((li_bef fs (nI dy) ns 0), fs, fe, fl, fn, ft, f2, fv, fp, fc)).2.2.2.2.2.1))), (a5, .inl (cI, 100, .inl ((li_go pk sd mo jo vo re hd hc (ns - (li_bef fs (nI dy) ns 0)) 1 dy la ((li_bef fs (nI dy) ns 0), fs, fe, fl, fn, ft, f2, fv, fp, fc)).2.2.2.2.2.2.1))), (a6, .inl (cI, 100, .inl ((li_go pk sd mo jo vo re hd hc (ns - (li_bef fs (nI dy) ns 0)) 1 dy la ((li_bef fs (nI dy) ns 0), fs, fe, fl, fn, ft, f2, fv, fp, fc)).2.2.2.2.2.2.2.1))), (a7, .inl (cI, 100, .inl ((li_go pk sd mo jo vo re hd hc (ns - (li_bef fs (nI dy) ns 0)) 1 dy la ((li_bef fs (nI dy) ns 0), fs, fe, fl, fn, ft, f2, fv, fp, fc)).2.2.2.2.2.2.2.2.1))), (a8, .inl (cI, 100, .inl ((li_go pk sd mo jo vo re hd hc (ns - (li_bef fs (nI dy) ns 0)) 1 dy la ((li_bef fs (nI dy) ns 0), fs, fe, fl, fn, ft, f2, fv, fp, fc)).2.2.2.2.2.2.2.2.2))), (pa, .inr (2, [.int (nI pk), .ref ps, .int (nI sd), .int mo, .int (nI jo), .int (nI vo), .int (bo_I re)])), (ho, .inr (0, [.ref ha, .int (nI hc)])), (ha, .inl (cI, 60, .inl hd))]) [0, 1, 2, 3, 4, 5, 6, 7, 8, 9, 10, 11, 12, 13, 14] (by decide) rfl
      refine lv_iload hx hb d_Pa_changed_79 (lv_at hl 0 rfl) ?_
      rw [hQ]
      have q9 : (nI (ns - (li_bef fs (nI dy) ns 0)) : Int32) = nI (ns - (li_bef fs (nI dy) ns 0)) := by rfl
      have e9 : ([(xx, .inr (4, [.ref rd, .ref qa, .ref ho, .ref li, .int (nI cn), pr])), (qa, .inl (cP, 10, .inr (.inr (.inr (.inr pf))))), (li, .inr (1, [.ref a0, .ref a1, .ref a2, .ref a3, .ref a4, .ref a5, .ref a6, .ref a7, .ref a8, .int (nI ((li_go pk sd mo jo vo re hd hc (ns - (li_bef fs (nI dy) ns 0)) 1 dy la (li_bef fs (nI dy) ns 0, fs, fe, fl, fn, ft, f2, fv, fp, fc)).1))])), (a0, .inl (cI, 100, .inl ((li_go pk sd mo jo vo re hd hc (ns - (li_bef fs (nI dy) ns 0)) 1 dy la (li_bef fs (nI dy) ns 0, fs, fe, fl, fn, ft, f2, fv, fp, fc)).2.1))), (a1, .inl (cI, 100, .inl ((li_go pk sd mo jo vo re hd hc (ns - (li_bef fs (nI dy) ns 0)) 1 dy la (li_bef fs (nI dy) ns 0, fs, fe, fl, fn, ft, f2, fv, fp, fc)).2.2.1))), (a2, .inl (cI, 100, .inl ((li_go pk sd mo jo vo re hd hc (ns - (li_bef fs (nI dy) ns 0)) 1 dy la (li_bef fs (nI dy) ns 0, fs, fe, fl, fn, ft, f2, fv, fp, fc)).2.2.2.1))), (a3, .inl (cI, 100, .inl ((li_go pk sd mo jo vo re hd hc (ns - (li_bef fs (nI dy) ns 0)) 1 dy la (li_bef fs (nI dy) ns 0, fs, fe, fl, fn, ft, f2, fv, fp, fc)).2.2.2.2.1))), (a4, .inl (cI, 100, .inl ((li_go pk sd mo jo vo re hd hc (ns - (li_bef fs (nI dy) ns 0)) 1 dy la (li_bef fs (nI dy) ns 0, fs, fe, fl, fn, ft, f2, fv, fp, fc)).2.2.2.2.2.1))), (a5, .inl (cI, 100, .inl ((li_go pk sd mo jo vo re hd hc (ns - (li_bef fs (nI dy) ns 0)) 1 dy la (li_bef fs (nI dy) ns 0, fs, fe, fl, fn, ft, f2, fv, fp, fc)).2.2.2.2.2.2.1))), (a6, .inl (cI, 100, .inl ((li_go pk sd mo jo vo re hd hc (ns - (li_bef fs (nI dy) ns 0)) 1 dy la (li_bef fs (nI dy) ns 0, fs, fe, fl, fn, ft, f2, fv, fp, fc)).2.2.2.2.2.2.2.1))), (a7, .inl (cI, 100, .inl ((li_go pk sd mo jo vo re hd hc (ns - (li_bef fs (nI dy) ns 0)) 1 dy la (li_bef fs (nI dy) ns 0, fs, fe, fl, fn, ft, f2, fv, fp, fc)).2.2.2.2.2.2.2.2.1))), (a8, .inl (cI, 100, .inl ((li_go pk sd mo jo vo re hd hc (ns - (li_bef fs (nI dy) ns 0)) 1 dy la (li_bef fs (nI dy) ns 0, fs, fe, fl, fn, ft, f2, fv, fp, fc)).2.2.2.2.2.2.2.2.2))), (pa, .inr (2, [.int (nI pk), .ref ps, .int (nI sd), .int mo, .int (nI jo), .int (nI vo), .int (bo_I re)])), (ho, .inr (0, [.ref ha, .int (nI hc)])), (ha, .inl (cI, 60, .inl hd))] : va_W) = [(xx, .inr (4, [.ref rd, .ref qa, .ref ho, .ref li, .int (nI cn), pr])), (qa, .inl (cP, 10, .inr (.inr (.inr (.inr pf))))), (li, .inr (1, [.ref a0, .ref a1, .ref a2, .ref a3, .ref a4, .ref a5, .ref a6, .ref a7, .ref a8, .int (nI ((li_go pk sd mo jo vo re hd hc (ns - (li_bef fs (nI dy) ns 0)) 1 dy la ((li_bef fs (nI dy) ns 0), fs, fe, fl, fn, ft, f2, fv, fp, fc)).1))])), (a0, .inl (cI, 100, .inl ((li_go pk sd mo jo vo re hd hc (ns - (li_bef fs (nI dy) ns 0)) 1 dy la ((li_bef fs (nI dy) ns 0), fs, fe, fl, fn, ft, f2, fv, fp, fc)).2.1))), (a1, .inl (cI, 100, .inl ((li_go pk sd mo jo vo re hd hc (ns - (li_bef fs (nI dy) ns 0)) 1 dy la ((li_bef fs (nI dy) ns 0), fs, fe, fl, fn, ft, f2, fv, fp, fc)).2.2.1))), (a2, .inl (cI, 100, .inl ((li_go pk sd mo jo vo re hd hc (ns - (li_bef fs (nI dy) ns 0)) 1 dy la ((li_bef fs (nI dy) ns 0), fs, fe, fl, fn, ft, f2, fv, fp, fc)).2.2.2.1))), (a3, .inl (cI, 100, .inl ((li_go pk sd mo jo vo re hd hc (ns - (li_bef fs (nI dy) ns 0)) 1 dy la ((li_bef fs (nI dy) ns 0), fs, fe, fl, fn, ft, f2, fv, fp, fc)).2.2.2.2.1))), (a4, .inl (cI, 100, .inl ((li_go pk sd mo jo vo re hd hc (ns - (li_bef fs (nI dy) ns 0)) 1 dy la ((li_bef fs (nI dy) ns 0), fs, fe, fl, fn, ft, f2, fv, fp, fc)).2.2.2.2.2.1))), (a5, .inl (cI, 100, .inl ((li_go pk sd mo jo vo re hd hc (ns - (li_bef fs (nI dy) ns 0)) 1 dy la ((li_bef fs (nI dy) ns 0), fs, fe, fl, fn, ft, f2, fv, fp, fc)).2.2.2.2.2.2.1))), (a6, .inl (cI, 100, .inl ((li_go pk sd mo jo vo re hd hc (ns - (li_bef fs (nI dy) ns 0)) 1 dy la ((li_bef fs (nI dy) ns 0), fs, fe, fl, fn, ft, f2, fv, fp, fc)).2.2.2.2.2.2.2.1))), (a7, .inl (cI, 100, .inl ((li_go pk sd mo jo vo re hd hc (ns - (li_bef fs (nI dy) ns 0)) 1 dy la ((li_bef fs (nI dy) ns 0), fs, fe, fl, fn, ft, f2, fv, fp, fc)).2.2.2.2.2.2.2.2.1))), (a8, .inl (cI, 100, .inl ((li_go pk sd mo jo vo re hd hc (ns - (li_bef fs (nI dy) ns 0)) 1 dy la ((li_bef fs (nI dy) ns 0), fs, fe, fl, fn, ft, f2, fv, fp, fc)).2.2.2.2.2.2.2.2.2))), (pa, .inr (2, [.int (nI pk), .ref ps, .int (nI sd), .int mo, .int (nI jo), .int (nI vo), .int (bo_I re)])), (ho, .inr (0, [.ref ha, .int (nI hc)])), (ha, .inl (cI, 60, .inl hd))] := by rfl
      exact W.iret (v := nI (ns - (li_bef fs (nI dy) ns 0))) hx hb hr (fun t ht hW => ⟨⟨_, (), rfl, q9, by rw [ht, e9]; exact hP, va_K.moved hW.alike hK, by rw [e9]; exact hD⟩, hS.F ht⟩) hS.2.2 d_Pa_changed_81
    · rw [hco] at c_38; cases c_38
  · rw [hday] at c_14; cases c_14

set_option maxHeartbeats 4000000 in
set_option maxRecDepth 100000 in
theorem c_Pa_print_s (l : Launch) (dC : Nat → ClassId) (dI : Nat → Nat → Nat) (sz : Nat) (xx : Nat) (rd : Nat) (qa : Nat) (ho : Nat) (li : Nat) (cn : Nat) (pr : Value) (cP : ClassId) (pf : Nat → Option Nat) (pq : Nat) (pa : Nat) (ps : Nat) (pk : Nat) (sd : Nat) (mo : Int32) (jo : Nat) (vo : Nat) (re : Bool) (cI : ClassId) (pn : Nat) (ptx : Nat → Int32) (hc0 : cn ≤ 10) (hk : pq < cn) (hpf : pf pq = some pa) : Met l y_Pa_print w_Pa_print ({ frames := 1, cells := 0, slots := 0, locals := 21 }) (va_Pc [.ref xx, .int (nI pq)] (wy_M (dC, dI) ga_cl [(xx, .inr (4, [.ref rd, .ref qa, .ref ho, .ref li, .int (nI cn), pr])), (qa, .inl (cP, 10, .inr (.inr (.inr (.inr pf))))), (pa, .inr (2, [.int (nI pk), .ref ps, .int (nI sd), .int mo, .int (nI jo), .int (nI vo), .int (bo_I re)])), (ps, .inl (cI, pn, .inl ptx))] [(cI, .int), (cP, .object "PatternText$Pattern")] sz)) (va_Qi (fun (r : Int32) (_ : Unit) => r = nI pn) (fun _ => wy_N (dC, dI) ga_cl [(cI, .int), (cP, .object "PatternText$Pattern")] (va_A [(xx, .inr (4, [.ref rd, .ref qa, .ref ho, .ref li, .int (nI cn), pr])), (qa, .inl (cP, 10, .inr (.inr (.inr (.inr pf))))), (pa, .inr (2, [.int (nI pk), .ref ps, .int (nI sd), .int mo, .int (nI jo), .int (nI vo), .int (bo_I re)])), (ps, .inl (cI, pn, .inl ptx))] sz) [(xx, .inr (4, [.ref rd, .ref qa, .ref ho, .ref li, .int (nI cn), .ref pa])), (qa, .inl (cP, 10, .inr (.inr (.inr (.inr pf))))), (pa, .inr (2, [.int (nI pk), .ref ps, .int (nI sd), .int mo, .int (nI jo), .int (nI vo), .int (bo_I re)])), (ps, .inl (cI, pn, .inl ptx))]) (va_A [(xx, .inr (4, [.ref rd, .ref qa, .ref ho, .ref li, .int (nI cn), pr])), (qa, .inl (cP, 10, .inr (.inr (.inr (.inr pf))))), (pa, .inr (2, [.int (nI pk), .ref ps, .int (nI sd), .int mo, .int (nI jo), .int (nI vo), .int (bo_I re)])), (ps, .inl (cI, pn, .inl ptx))] sz)) 0 0 (va_A [(xx, .inr (4, [.ref rd, .ref qa, .ref ho, .ref li, .int (nI cn), pr])), (qa, .inl (cP, 10, .inr (.inr (.inr (.inr pf))))), (pa, .inr (2, [.int (nI pk), .ref ps, .int (nI sd), .int mo, .int (nI jo), .int (nI vo), .int (bo_I re)])), (ps, .inl (cI, pn, .inl ptx))] sz) := by
  refine Met.ofW (cc := b_Pa_print) (maxL := 3) (ret := (some .int)) (by decide) rfl ?_
  intro p e s m args below meth c s₁ B hml hv
  obtain ⟨rfl, hsz, hP, hK, hN, hD0⟩ := hv
  have hx := B.exec
  have hb := B.bytes
  have hr := B.returns
  have hts : ∀ w ∈ ga_tbl, w.before _ s = true := fun w h => atoms_spec (ws := w_Pa_print) B.pre w (List.mem_cons_of_mem _ h)
  have hown : s.vm.findClass "PatternText" = some m.cls := findClass_of_methodNamed B.named
  have hlocks := B.notSynchronized
  subst hsz
  have hD := hD0.self (sz := s.heap.size)
  generalize hAe : va_A [(xx, .inr (4, [.ref rd, .ref qa, .ref ho, .ref li, .int (nI cn), pr])), (qa, .inl (cP, 10, .inr (.inr (.inr (.inr pf))))), (pa, .inr (2, [.int (nI pk), .ref ps, .int (nI sd), .int mo, .int (nI jo), .int (nI vo), .int (bo_I re)])), (ps, .inl (cI, pn, .inl ptx))] s.heap.size = A at hD ⊢
  have hA : ∀ q : Nat, s.heap.size ≤ q → A q := fun q h => by rw [← hAe]; exact Or.inr h
  have hS : va_S A s.heap s.heap [] := va_S.rf
  have hl := lv_entry ([.ref xx, .int (nI pq)]) (n := 3) (Nat.le_of_ble_eq_true rfl)
  rw [lg_entry_eq]
  generalize (lg_sl ([.ref xx, .int (nI pq)]) ++ List.replicate (3 - (lg_sl ([.ref xx, .int (nI pq)])).length) Slot.unset).toArray = ls at hl ⊢
  have hl : lv_has ls 3 [(0, .ref xx), (1, .int (nI pq))] := hl
  obtain ⟨Q0, hQ⟩ : ∃ Q0 : State → Prop, Q0 = MQ below (va_Qi (fun (r : Int32) (_ : Unit) => r = nI pn) (fun _ => wy_N (dC, dI) ga_cl [(cI, .int), (cP, .object "PatternText$Pattern")] A [(xx, .inr (4, [.ref rd, .ref qa, .ref ho, .ref li, .int (nI cn), .ref pa])), (qa, .inl (cP, 10, .inr (.inr (.inr (.inr pf))))), (pa, .inr (2, [.int (nI pk), .ref ps, .int (nI sd), .int mo, .int (nI jo), .int (nI vo), .int (bo_I re)])), (ps, .inl (cI, pn, .inl ptx))]) A) ([.ref xx, .int (nI pq)] : List Value).toArray s 0 0 A := ⟨_, rfl⟩
  show W p l e ({ frames := 1, cells := 0, slots := 0, locals := 21 }) s m ([.ref xx, .int (nI pq)] : List Value).toArray below meth c s.heap [] 0 0 (MQ below (va_Qi (fun (r : Int32) (_ : Unit) => r = nI pn) (fun _ => wy_N (dC, dI) ga_cl [(cI, .int), (cP, .object "PatternText$Pattern")] A [(xx, .inr (4, [.ref rd, .ref qa, .ref ho, .ref li, .int (nI cn), .ref pa])), (qa, .inl (cP, 10, .inr (.inr (.inr (.inr pf))))), (pa, .inr (2, [.int (nI pk), .ref ps, .int (nI sd), .int mo, .int (nI jo), .int (nI vo), .int (bo_I re)])), (ps, .inl (cI, pn, .inl ptx))]) A) ([.ref xx, .int (nI pq)] : List Value).toArray s 0 0 A) (F0 m 0 ls [])
  rw [← hQ]
  refine lv_aload_n hx hb d_Pa_print_0 rfl (lv_at hl 0 rfl) ?_
  refine lv_iload_n hx hb d_Pa_print_1 rfl (lv_at hl 1 rfl) ?_
  refine va_csq (va_runV (As := [.int (nI pq)]) (rest := []) ⟨hx, hb, hml, hown, hts⟩ (c_Pa_patternOf_s l dC dI xx rd qa ho li cn pr cP pf pq pa (by omega) (hk) (hpf)) (cwV 1 hts (ga_V kw_346 kw_348 kw_11 kw_34 (ga_in kw_349)) rfl rfl rfl (by decide +kernel) ⟨Nat.le_of_ble_eq_true rfl, Nat.le_of_ble_eq_true rfl⟩) (wy_preV 0 (hP.sub (ws' := [(xx, .inr (4, [.ref rd, .ref qa, .ref ho, .ref li, .int (nI cn), pr])), (qa, .inl (cP, 10, .inr (.inr (.inr (.inr pf)))))]) [0, 1] rfl) (hK.sub (tys' := [(cP, .object "PatternText$Pattern")]) [1] rfl) hN (ci := 4) rfl rfl rfl) rfl rfl hl.1 rfl (lv_room (Nat.le_of_ble_eq_true rfl)) d_Pa_print_2 ⟨Nat.le_of_ble_eq_true rfl, Nat.le_of_ble_eq_true rfl⟩).run (fun r_2 h_2 => ?_)
  subst h_2
  refine lv_astore_n (lv' := [(2, .ref pa), (0, .ref xx), (1, .int (nI pq))]) hx hb d_Pa_print_5 rfl hl (by decide) rfl (fun ls hl => ?_)
  refine lv_aload_n hx hb d_Pa_print_6 rfl (lv_at hl 0 rfl) ?_
  refine lv_ifnonnull (tgt := 12) hx hb d_Pa_print_7 (by decide) ?_
  refine lv_aload_n hx hb d_Pa_print_12 rfl (lv_at hl 1 rfl) ?_
  refine lv_aload_n hx hb d_Pa_print_13 rfl (lv_at hl 0 rfl) ?_
  refine va_put (D := (dC, dI)) (ci := 4) (v := .ref pa) (ty := .object "PatternText$Pattern") (C := "PatternText") (T := F_Pa) (N := 6) hx hb hts iw_Pa t_Pa t_Pa_ok n_Pa hown hK hP hD hS 0 rfl rfl 5 (by decide) (hts _ kw_160) (fun _ h9 => h9) rfl (by decide +kernel) rfl rfl (Nat.le_of_ble_eq_true rfl) d_Pa_print_14 (fun H locs hP hD hS => ?_)
  have hP : va_P (dC, dI) ga_cl [(xx, .inr (4, [.ref rd, .ref qa, .ref ho, .ref li, .int (nI cn), .ref pa])), (qa, .inl (cP, 10, .inr (.inr (.inr (.inr pf))))), (pa, .inr (2, [.int (nI pk), .ref ps, .int (nI sd), .int mo, .int (nI jo), .int (nI vo), .int (bo_I re)])), (ps, .inl (cI, pn, .inl ptx))] H := hP
  have hD : va_D A [(xx, .inr (4, [.ref rd, .ref qa, .ref ho, .ref li, .int (nI cn), .ref pa])), (qa, .inl (cP, 10, .inr (.inr (.inr (.inr pf))))), (pa, .inr (2, [.int (nI pk), .ref ps, .int (nI sd), .int mo, .int (nI jo), .int (nI vo), .int (bo_I re)])), (ps, .inl (cI, pn, .inl ptx))] := hD
  refine lv_aload_n hx hb d_Pa_print_17 rfl (lv_at hl 0 rfl) ?_
  refine va_getN (D := (dC, dI)) (ci := 2) (v := .ref ps) (C := "PatternText$Pattern") (T := F_Pt) (N := 7) hx hb hts iw_Pt hown hK hP 2 rfl rfl 1 (by decide) (nw_315 hN) (fun _ h9 => h9) rfl d_Pa_print_18 ?_
  refine va_alen (v := nI pn) hx hb hK hP 3 0 rfl rfl rfl d_Pa_print_21 ?_
  rw [hQ]
  have q9 : (nI pn : Int32) = nI pn := by rfl
  have e9 : ([(xx, .inr (4, [.ref rd, .ref qa, .ref ho, .ref li, .int (nI cn), .ref pa])), (qa, .inl (cP, 10, .inr (.inr (.inr (.inr pf))))), (pa, .inr (2, [.int (nI pk), .ref ps, .int (nI sd), .int mo, .int (nI jo), .int (nI vo), .int (bo_I re)])), (ps, .inl (cI, pn, .inl ptx))] : va_W) = [(xx, .inr (4, [.ref rd, .ref qa, .ref ho, .ref li, .int (nI cn), .ref pa])), (qa, .inl (cP, 10, .inr (.inr (.inr (.inr pf))))), (pa, .inr (2, [.int (nI pk), .ref ps, .int (nI sd), .int mo, .int (nI jo), .int (nI vo), .int (bo_I re)])), (ps, .inl (cI, pn, .inl ptx))] := by rfl
  exact W.iret (v := nI pn) hx hb hr (fun t ht hW => ⟨⟨_, (), rfl, q9, by rw [ht, e9]; exact hP, va_K.moved hW.alike hK, by rw [e9]; exact hD⟩, hS.F ht⟩) hS.2.2 d_Pa_print_22

set_option maxHeartbeats 4000000 in
set_option maxRecDepth 100000 in
theorem c_Pa_at_n (l : Launch) (dC : Nat → ClassId) (dI : Nat → Nat → Nat) (xx : Nat) (rd : Nat) (qa : Nat) (ho : Nat) (li : Nat) (cn : Nat) (x : Int32) : Met l y_Pa_at w_Pa_at ({ frames := 0, cells := 0, slots := 0, locals := 0 }) (va_Pc [.ref xx, .int x] (wy_R (dC, dI) ga_cl [(xx, .inr (4, [.ref rd, .ref qa, .ref ho, .ref li, .int (nI cn), .null]))] [])) (vp_Si (fun r => r = (-1))) 0 0 (fun _ => False) := by
  refine Met.ofW (cc := b_Pa_at) (maxL := 2) (ret := (some .int)) (by decide) rfl ?_
  intro p e s m args below meth c s₁ B hml hv
  obtain ⟨rfl, hP, hK, hN⟩ := hv
  have hx := B.exec
  have hb := B.bytes
  have hr := B.returns
  have hts : ∀ w ∈ ga_tbl, w.before _ s = true := fun w h => atoms_spec (ws := w_Pa_at) B.pre w (List.mem_cons_of_mem _ h)
  have hown : s.vm.findClass "PatternText" = some m.cls := findClass_of_methodNamed B.named
  have hlocks := B.notSynchronized
  have hl := lv_entry ([.ref xx, .int x]) (n := 2) (Nat.le_of_ble_eq_true rfl)
  rw [lg_entry_eq]
  generalize (lg_sl ([.ref xx, .int x]) ++ List.replicate (2 - (lg_sl ([.ref xx, .int x])).length) Slot.unset).toArray = ls at hl ⊢
  have hl : lv_has ls 2 [(0, .ref xx), (1, .int x)] := hl
  refine lv_aload_n hx hb d_Pa_at_0 rfl (lv_at hl 0 rfl) ?_
  refine va_get (D := (dC, dI)) (ci := 4) (v := .null) (C := "PatternText") (T := F_Pa) (N := 6) hx hb hts iw_Pa hown hK hP 0 rfl rfl 5 (by decide) (hts _ kw_160) (fun _ h9 => h9) rfl d_Pa_at_1 ?_
  refine lv_ifnullN (tgt := 23) hx hb d_Pa_at_4 (by decide) ?_
  refine lv_iconst (v := -1) hx hb d_Pa_at_23 (by decide) ?_
  have q9 : ((-1) : Int32) = (-1) := by rfl
  exact W.iret (v := (-1)) hx hb hr (fun t ht _ => ⟨_, rfl, q9, ht⟩) (fun _ h9 => by cases h9) d_Pa_at_24

set_option maxHeartbeats 4000000 in
set_option maxRecDepth 100000 in
theorem c_Pa_at_s (l : Launch) (dC : Nat → ClassId) (dI : Nat → Nat → Nat) (xx : Nat) (rd : Nat) (qa : Nat) (ho : Nat) (li : Nat) (cn : Nat) (pa : Nat) (ps : Nat) (pk : Nat) (sd : Nat) (mo : Int32) (jo : Nat) (vo : Nat) (re : Bool) (cI : ClassId) (pn : Nat) (ptx : Nat → Int32) (x : Int32) (hpn : pn ≤ 120) : Met l y_Pa_at w_Pa_at ({ frames := 0, cells := 0, slots := 0, locals := 0 }) (va_Pc [.ref xx, .int x] (wy_R (dC, dI) ga_cl [(xx, .inr (4, [.ref rd, .ref qa, .ref ho, .ref li, .int (nI cn), .ref pa])), (pa, .inr (2, [.int (nI pk), .ref ps, .int (nI sd), .int mo, .int (nI jo), .int (nI vo), .int (bo_I re)])), (ps, .inl (cI, pn, .inl ptx))] [(cI, .int)])) (vp_Si (fun r => r = cond (li_has pn x) (ptx x.toNatClampNeg) (-1))) 0 0 (fun _ => False) := by
  refine Met.ofW (cc := b_Pa_at) (maxL := 2) (ret := (some .int)) (by decide) rfl ?_
  intro p e s m args below meth c s₁ B hml hv
  obtain ⟨rfl, hP, hK, hN⟩ := hv
  have hx := B.exec
  have hb := B.bytes
  have hr := B.returns
  have hts : ∀ w ∈ ga_tbl, w.before _ s = true := fun w h => atoms_spec (ws := w_Pa_at) B.pre w (List.mem_cons_of_mem _ h)
  have hown : s.vm.findClass "PatternText" = some m.cls := findClass_of_methodNamed B.named
  have hlocks := B.notSynchronized
  have hl := lv_entry ([.ref xx, .int x]) (n := 2) (Nat.le_of_ble_eq_true rfl)
  rw [lg_entry_eq]
  generalize (lg_sl ([.ref xx, .int x]) ++ List.replicate (2 - (lg_sl ([.ref xx, .int x])).length) Slot.unset).toArray = ls at hl ⊢
  have hl : lv_has ls 2 [(0, .ref xx), (1, .int x)] := hl
  refine lv_aload_n hx hb d_Pa_at_0 rfl (lv_at hl 0 rfl) ?_
  refine va_get (D := (dC, dI)) (ci := 4) (v := .ref pa) (C := "PatternText") (T := F_Pa) (N := 6) hx hb hts iw_Pa hown hK hP 0 rfl rfl 5 (by decide) (hts _ kw_160) (fun _ h9 => h9) rfl d_Pa_at_1 ?_
  refine lv_ifnull hx hb d_Pa_at_4 ?_
  refine lv_iload_n hx hb d_Pa_at_7 rfl (lv_at hl 1 rfl) ?_
  refine lv_if_lt (tgt := 23) hx hb d_Pa_at_8 (by decide) (fun c_8 => ?_) (fun c_8 => ?_)
  · refine lv_iconst (v := -1) hx hb d_Pa_at_23 (by decide) ?_
    have z9 : li_has pn x = false := by simp only [li_has, Bool.and_eq_false_iff, decide_eq_false_iff_not]; first | exact Or.inl (Int32.not_le.mpr c_8) | exact Or.inr c_20
    have q9 : ((-1) : Int32) = cond (li_has pn x) (ptx x.toNatClampNeg) (-1) := by rw [z9]; rfl
    exact W.iret (v := (-1)) hx hb hr (fun t ht _ => ⟨_, rfl, q9, ht⟩) (fun _ h9 => by cases h9) d_Pa_at_24
  · refine lv_iload_n hx hb d_Pa_at_11 rfl (lv_at hl 1 rfl) ?_
    refine lv_aload_n hx hb d_Pa_at_12 rfl (lv_at hl 0 rfl) ?_
    refine va_get (D := (dC, dI)) (ci := 4) (v := .ref pa) (C := "PatternText") (T := F_Pa) (N := 6) hx hb hts iw_Pa hown hK hP 0 rfl rfl 5 (by decide) (hts _ kw_160) (fun _ h9 => h9) rfl d_Pa_at_13 ?_
    refine va_getN (D := (dC, dI)) (ci := 2) (v := .ref ps) (C := "PatternText$Pattern") (T := F_Pt) (N := 7) hx hb hts iw_Pt hown hK hP 1 rfl rfl 1 (by decide) (nw_315 hN) (fun _ h9 => h9) rfl d_Pa_at_16 ?_
    refine va_alen (v := nI pn) hx hb hK hP 2 0 rfl rfl rfl d_Pa_at_19 ?_
    refine lv_icmp_lt (tgt := 25) hx hb d_Pa_at_20 (by decide) (fun c_20 => ?_) (fun c_20 => ?_)
    · have hh : li_has pn x = true := by simp only [li_has, Bool.and_eq_true, decide_eq_true_eq]; exact ⟨Int32.not_lt.mp c_8, c_20⟩
      obtain ⟨k, hk, rfl⟩ := li_has_of (by omega) hh
      refine lv_aload_n hx hb d_Pa_at_25 rfl (lv_at hl 0 rfl) ?_
      refine va_get (D := (dC, dI)) (ci := 4) (v := .ref pa) (C := "PatternText") (T := F_Pa) (N := 6) hx hb hts iw_Pa hown hK hP 0 rfl rfl 5 (by decide) (hts _ kw_160) (fun _ h9 => h9) rfl d_Pa_at_26 ?_
      refine va_getN (D := (dC, dI)) (ci := 2) (v := .ref ps) (C := "PatternText$Pattern") (T := F_Pt) (N := 7) hx hb hts iw_Pt hown hK hP 1 rfl rfl 1 (by decide) (nw_315 hN) (fun _ h9 => h9) rfl d_Pa_at_29 ?_
      refine lv_iload_n hx hb d_Pa_at_32 rfl (lv_at hl 1 rfl) ?_
      refine wy_iald hx hb hK hP 2 0 k rfl rfl (by omega) (by omega) d_Pa_at_33 ?_
      have q9 : (ptx k : Int32) = cond (li_has pn (nI k)) (ptx (nI k).toNatClampNeg) (-1) := by rw [hh, nI_clamp (by omega)]; rfl
      exact W.iret (v := ptx k) hx hb hr (fun t ht _ => ⟨_, rfl, q9, ht⟩) (fun _ h9 => by cases h9) d_Pa_at_34
    · refine lv_iconst (v := -1) hx hb d_Pa_at_23 (by decide) ?_
      have z9 : li_has pn x = false := by simp only [li_has, Bool.and_eq_false_iff, decide_eq_false_iff_not]; first | exact Or.inl (Int32.not_le.mpr c_8) | exact Or.inr c_20
      have q9 : ((-1) : Int32) = cond (li_has pn x) (ptx x.toNatClampNeg) (-1) := by rw [z9]; rfl
      exact W.iret (v := (-1)) hx hb hr (fun t ht _ => ⟨_, rfl, q9, ht⟩) (fun _ h9 => by cases h9) d_Pa_at_24
