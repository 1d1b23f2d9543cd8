set_option maxHeartbeats 4000000 in
set_option maxRecDepth 100000 in
theorem c_Pt_hasIssueOn (l : Launch) (dC : Nat → ClassId) (dI : Nat → Nat → Nat) (pa : Nat) (ps : Nat) (pk : Nat) (sd : Nat) (mo : Int32) (jo : Nat) (vo : Nat) (re : Bool) (x : Nat) (hx0 : x < 2 ^ 31) : Met l y_Pt_hasIssueOn w_Pt_hasIssueOn ({ frames := 0, cells := 0, slots := 0, locals := 0 }) (va_Pc [.ref pa, .int (nI x)] (wy_R (dC, dI) ga_cl [(pa, .inr (2, [.int (nI pk), .ref ps, .int (nI sd), .int mo, .int (nI jo), .int (nI vo), .int (bo_I re)]))] [])) (vp_Si (fun r => r = bo_I (pt_on mo x))) 0 0 (fun _ => False) := by
  refine Met.ofW (cc := b_Pt_hasIssueOn) (maxL := 3) (ret := (some .boolean)) (by decide) rfl ?_
  intro p e s m args below meth c s₁ B hml hv
  obtain ⟨rfl, hP, hK, hN⟩ := hv
  have hx := B.exec
  have hb := B.bytes
  have hr := B.returns
  have hts : ∀ w ∈ ga_tbl, w.before _ s = true := fun w h => atoms_spec (ws := w_Pt_hasIssueOn) B.pre w (List.mem_cons_of_mem _ h)
  have hown : s.vm.findClass "PatternText$Pattern" = some m.cls := findClass_of_methodNamed B.named
  have hlocks := B.notSynchronized
  have hl := lv_entry ([.ref pa, .int (nI x)]) (n := 3) (Nat.le_of_ble_eq_true rfl)
  rw [lg_entry_eq]
  generalize (lg_sl ([.ref pa, .int (nI x)]) ++ List.replicate (3 - (lg_sl ([.ref pa, .int (nI x)])).length) Slot.unset).toArray = ls at hl ⊢
  have hl : lv_has ls 3 [(0, .ref pa), (1, .int (nI x))] := hl
  refine lv_iload_n hx hb d_Pt_hasIssueOn_0 rfl (lv_at hl 1 rfl) ?_
  refine lv_bipush (v := 30) hx hb d_Pt_hasIssueOn_1 (by decide) ?_
  refine wy_idiv hx hb x 30 (by omega) (by omega) (by omega) d_Pt_hasIssueOn_3 ?_
  refine lv_bipush (v := 12) hx hb d_Pt_hasIssueOn_4 (by decide) ?_
  refine wy_irem hx hb (x / 30) 12 (by omega) (by omega) (by omega) d_Pt_hasIssueOn_6 ?_
  refine lv_istore_n (lv' := [(2, .int (nI ((x / 30) % 12))), (0, .ref pa), (1, .int (nI x))]) hx hb d_Pt_hasIssueOn_7 rfl hl (by decide) rfl (fun ls hl => ?_)
  refine lv_aload_n hx hb d_Pt_hasIssueOn_8 rfl (lv_at hl 1 rfl) ?_
  refine va_get (D := (dC, dI)) (ci := 2) (v := .int mo) (C := "PatternText$Pattern") (T := F_Pt) (N := 7) hx hb hts iw_Pt hown hK hP 0 rfl rfl 3 (by decide) (hts _ kw_318) (fun _ h9 => h9) rfl d_Pt_hasIssueOn_9 ?_
  refine lv_iconst (v := 1) hx hb d_Pt_hasIssueOn_12 (by decide) ?_
  refine lv_iload_n hx hb d_Pt_hasIssueOn_13 rfl (lv_at hl 0 rfl) ?_
  refine lv_ishl hx hb d_Pt_hasIssueOn_14 ?_
  refine lv_iand hx hb d_Pt_hasIssueOn_15 ?_
  refine lv_if_ne (tgt := 23) hx hb d_Pt_hasIssueOn_16 (by decide) (fun c_16 => ?_) (fun c_16 => ?_)
  · refine lv_iconst (v := 0) hx hb d_Pt_hasIssueOn_23 (by decide) ?_
    have z9 : pt_on mo x = false := by first | exact decide_eq_true c_16 | exact decide_eq_false c_16
    have q9 : (0 : Int32) = bo_I (pt_on mo x) := by rw [z9]; rfl
    exact W.zret (v := 0) hx hb hr rfl (fun t ht _ => ⟨_, rfl, q9, ht⟩) (fun _ h9 => by cases h9) d_Pt_hasIssueOn_24
  · refine lv_iconst (v := 1) hx hb d_Pt_hasIssueOn_19 (by decide) ?_
    refine lv_goto (tgt := 24) hx hb d_Pt_hasIssueOn_20 (by decide) ?_
    have z9 : pt_on mo x = true := by first | exact decide_eq_true c_16 | exact decide_eq_false c_16
    have q9 : (1 : Int32) = bo_I (pt_on mo x) := by rw [z9]; rfl
    exact W.zret (v := 1) hx hb hr rfl (fun t ht _ => ⟨_, rfl, q9, ht⟩) (fun _ h9 => by cases h9) d_Pt_hasIssueOn_24

set_option maxHeartbeats 4000000 in
set_option maxRecDepth 100000 in
theorem c_Pt_stepWithIssue (l : Launch) (dC : Nat → ClassId) (dI : Nat → Nat → Nat) (pa : Nat) (ps : Nat) (pk : Nat) (sd : Nat) (mo : Int32) (jo : Nat) (vo : Nat) (re : Bool) (d : Nat) (hd0 : d ≤ 1003000) (hsd : sd ≤ 2970) : Met l y_Pt_stepWithIssue w_Pt_stepWithIssue ({ frames := 1, cells := 0, slots := 0, locals := 22 }) (va_Pc [.ref pa, .int (nI d)] (wy_R (dC, dI) ga_cl [(pa, .inr (2, [.int (nI pk), .ref ps, .int (nI sd), .int mo, .int (nI jo), .int (nI vo), .int (bo_I re)]))] [])) (vp_Si (fun r => r = pt_oi (pt_sw sd mo d 1800 d))) 0 0 (fun _ => False) := by
  refine Met.ofW (cc := b_Pt_stepWithIssue) (maxL := 4) (ret := (some .int)) (by decide) rfl ?_
  intro p e s m args below meth c s₁ B hml hv
  obtain ⟨rfl, hP, hK, hN⟩ := hv
  have hx := B.exec
  have hb := B.bytes
  have hr := B.returns
  have hts : ∀ w ∈ ga_tbl, w.before _ s = true := fun w h => atoms_spec (ws := w_Pt_stepWithIssue) B.pre w (List.mem_cons_of_mem _ h)
  have hown : s.vm.findClass "PatternText$Pattern" = some m.cls := findClass_of_methodNamed B.named
  have hlocks := B.notSynchronized
  have hl := lv_entry ([.ref pa, .int (nI d)]) (n := 4) (Nat.le_of_ble_eq_true rfl)
  rw [lg_entry_eq]
  generalize (lg_sl ([.ref pa, .int (nI d)]) ++ List.replicate (4 - (lg_sl ([.ref pa, .int (nI d)])).length) Slot.unset).toArray = ls at hl ⊢
  have hl : lv_has ls 4 [(0, .ref pa), (1, .int (nI d))] := hl
  obtain ⟨Q0, hQ⟩ : ∃ Q0 : State → Prop, Q0 = MQ below (vp_Si (fun r => r = pt_oi (pt_sw sd mo d 1800 d))) ([.ref pa, .int (nI d)] : List Value).toArray s 0 0 (fun _ => False) := ⟨_, rfl⟩
  show W p l e ({ frames := 1, cells := 0, slots := 0, locals := 22 }) s m ([.ref pa, .int (nI d)] : List Value).toArray below meth c s.heap [] 0 0 (MQ below (vp_Si (fun r => r = pt_oi (pt_sw sd mo d 1800 d))) ([.ref pa, .int (nI d)] : List Value).toArray s 0 0 (fun _ => False)) (F0 m 0 ls [])
  rw [← hQ]
  refine lv_iload_n hx hb d_Pt_stepWithIssue_0 rfl (lv_at hl 1 rfl) ?_
  refine lv_istore_n (lv' := [(2, .int (nI d)), (0, .ref pa), (1, .int (nI d))]) hx hb d_Pt_stepWithIssue_1 rfl hl (by decide) rfl (fun ls hl => ?_)
  refine lv_iconst (v := 0) hx hb d_Pt_stepWithIssue_2 (by decide) ?_
  refine lv_istore_n (lv' := [(3, .int 0), (2, .int (nI d)), (0, .ref pa), (1, .int (nI d))]) hx hb d_Pt_stepWithIssue_3 rfl hl (by decide) rfl (fun ls hl => ?_)
  have loop_4 : ∀ (fu : Nat) (k : Nat) (x : Nat), (d ≤ x) → (x ≤ 1003000) → (k ≤ 1800) → (pt_sw sd mo d (1800 - k) x = pt_sw sd mo d 1800 d) → 1800 - k < fu → ∀ (ls : Array Slot), lv_has ls 4 [(0, .ref pa), (1, .int (nI d)), (2, .int (nI x)), (3, .int (nI k))] → W p l e ({ frames := 1, cells := 0, slots := 0, locals := 22 }) s m ([.ref pa, .int (nI d)] : List Value).toArray below meth c s.heap [] 0 0 Q0 (F0 m 4 ls []) := by
    intro fu
    induction fu with
    | zero => intro k x h1 h2 h3 hR hmu; exact absurd hmu (Nat.not_lt_zero _)
    | succ fu ih_4 =>
      intro k x h1 h2 h3 hR hmu ls hl
      refine lv_iload_n hx hb d_Pt_stepWithIssue_4 rfl (lv_at hl 3 rfl) ?_
      refine lv_sipush (v := 1800) hx hb d_Pt_stepWithIssue_5 (by decide) ?_
      refine wy_icmp_ge (tgt := 51) hx hb k 1800 (by omega) (by omega) d_Pt_stepWithIssue_8 (by decide) (fun c_8 => ?_) (fun c_8 => ?_)
      · refine lv_iconst (v := -1) hx hb d_Pt_stepWithIssue_51 (by decide) ?_
        rw [hQ]
        have z9 : pt_sw sd mo d 1800 d = none := by rw [← hR]; exact pt_sw_0 c_8
        have q9 : ((-1) : Int32) = pt_oi (pt_sw sd mo d 1800 d) := by rw [z9]; rfl
        exact W.iret (v := (-1)) hx hb hr (fun t ht _ => ⟨_, rfl, q9, ht⟩) (fun _ h9 => by cases h9) d_Pt_stepWithIssue_52
      · refine lv_iload_n hx hb d_Pt_stepWithIssue_11 rfl (lv_at hl 2 rfl) ?_
        refine lv_iload_n hx hb d_Pt_stepWithIssue_12 rfl (lv_at hl 1 rfl) ?_
        refine wy_isub hx hb x d (by omega) d_Pt_stepWithIssue_13 ?_
        refine lv_sipush (v := 1800) hx hb d_Pt_stepWithIssue_14 (by decide) ?_
        refine wy_icmp_ge (tgt := 26) hx hb (x - d) 1800 (by omega) (by omega) d_Pt_stepWithIssue_17 (by decide) (fun c_17 => ?_) (fun c_17 => ?_)
        · refine lv_iconst (v := -1) hx hb d_Pt_stepWithIssue_26 (by decide) ?_
          rw [hQ]
          have z9 : pt_sw sd mo d 1800 d = none := by rw [← hR, pt_sw_go c_8, if_pos (by omega)]
          have q9 : ((-1) : Int32) = pt_oi (pt_sw sd mo d 1800 d) := by rw [z9]; rfl
          exact W.iret (v := (-1)) hx hb hr (fun t ht _ => ⟨_, rfl, q9, ht⟩) (fun _ h9 => by cases h9) d_Pt_stepWithIssue_27
        · refine lv_iload_n hx hb d_Pt_stepWithIssue_20 rfl (lv_at hl 2 rfl) ?_
          refine lv_ldc (v := 1000000) hx hb hown (hts _ kw_366) d_Pt_stepWithIssue_21 ?_
          refine wy_icmp_le (tgt := 28) hx hb x 1000000 (by omega) (by omega) d_Pt_stepWithIssue_23 (by decide) (fun c_23 => ?_) (fun c_23 => ?_)
          · refine lv_aload_n hx hb d_Pt_stepWithIssue_28 rfl (lv_at hl 0 rfl) ?_
            refine lv_iload_n hx hb d_Pt_stepWithIssue_29 rfl (lv_at hl 2 rfl) ?_
            refine vp_callSi (va_runV (As := [.int (nI x)]) (rest := []) ⟨hx, hb, hml, hown, hts⟩ (c_Pt_hasIssueOn l dC dI pa ps pk sd mo jo vo re x (by omega)) (cwV 1 hts (ga_V kw_367 kw_368 kw_369 kw_45 (ga_in kw_370)) rfl rfl rfl (by decide +kernel) ⟨Nat.le_of_ble_eq_true rfl, Nat.le_of_ble_eq_true rfl⟩) (wy_preV 0 (hP.sub (ws' := [(pa, .inr (2, [.int (nI pk), .ref ps, .int (nI sd), .int mo, .int (nI jo), .int (nI vo), .int (bo_I re)]))]) [0] rfl) (hK.sub (tys' := []) [] rfl) hN (ci := 2) rfl rfl rfl) rfl rfl hl.1 rfl (lv_room (Nat.le_of_ble_eq_true rfl)) d_Pt_stepWithIssue_30 ⟨Nat.le_of_ble_eq_true rfl, Nat.le_of_ble_eq_true rfl⟩).run (fun r_30 h_30 => ?_)
            subst h_30
            refine wy_ifeqB (tgt := 38) hx hb d_Pt_stepWithIssue_33 (by decide) (fun c_33 => ?_) (fun c_33 => ?_)
            · refine lv_iload_n hx hb d_Pt_stepWithIssue_38 rfl (lv_at hl 2 rfl) ?_
              refine lv_aload_n hx hb d_Pt_stepWithIssue_39 rfl (lv_at hl 0 rfl) ?_
              refine va_get (D := (dC, dI)) (ci := 2) (v := .int (nI sd)) (C := "PatternText$Pattern") (T := F_Pt) (N := 7) hx hb hts iw_Pt hown hK hP 0 rfl rfl 2 (by decide) (hts _ kw_316) (fun _ h9 => h9) rfl d_Pt_stepWithIssue_40 ?_
              refine wy_iadd hx hb x sd d_Pt_stepWithIssue_43 ?_
              refine lv_istore_n (lv' := [(2, .int (nI (x + sd))), (0, .ref pa), (1, .int (nI d)), (3, .int (nI k))]) hx hb d_Pt_stepWithIssue_44 rfl hl (by decide) rfl (fun ls hl => ?_)
              refine wy_iinc (x := k) (lv' := [(3, .int (nI (k + 1))), (2, .int (nI (x + sd))), (0, .ref pa), (1, .int (nI d))]) hx hb d_Pt_stepWithIssue_45 hl (k := 3) rfl (by decide) rfl (fun ls hl => ?_)
              refine lv_goto (tgt := 4) hx hb d_Pt_stepWithIssue_48 (by decide) ?_
              exact ih_4 (k + 1) (x + sd) (by omega) (by omega) (by omega) (by rw [← hR, pt_sw_go c_8, if_neg (by omega), c_33]; rfl) (by omega) ls (lv_sub hl [2, 3, 1, 0] rfl)
            · refine lv_iload_n hx hb d_Pt_stepWithIssue_36 rfl (lv_at hl 2 rfl) ?_
              rw [hQ]
              have z9 : pt_sw sd mo d 1800 d = some x := by rw [← hR, pt_sw_go c_8, if_neg (by omega), c_33]; rfl
              have q9 : (nI x : Int32) = pt_oi (pt_sw sd mo d 1800 d) := by rw [z9]; rfl
              exact W.iret (v := nI x) hx hb hr (fun t ht _ => ⟨_, rfl, q9, ht⟩) (fun _ h9 => by cases h9) d_Pt_stepWithIssue_37
          · refine lv_iconst (v := -1) hx hb d_Pt_stepWithIssue_26 (by decide) ?_
            rw [hQ]
            have z9 : pt_sw sd mo d 1800 d = none := by rw [← hR, pt_sw_go c_8, if_pos (by omega)]
            have q9 : ((-1) : Int32) = pt_oi (pt_sw sd mo d 1800 d) := by rw [z9]; rfl
            exact W.iret (v := (-1)) hx hb hr (fun t ht _ => ⟨_, rfl, q9, ht⟩) (fun _ h9 => by cases h9) d_Pt_stepWithIssue_27
  exact loop_4 _ 0 d (by omega) (by omega) (by omega) (rfl) (Nat.lt_succ_self _) ls (lv_sub hl [2, 3, 1, 0] rfl)

set_option maxHeartbeats 4000000 in
set_option maxRecDepth 100000 in
theorem c_Pt_numbersOfIssue (l : Launch) (dC : Nat → ClassId) (dI : Nat → Nat → Nat) (pa : Nat) (ps : Nat) (pk : Nat) (sd : Nat) (mo : Int32) (jo : Nat) (vo : Nat) (re : Bool) (k : Nat) (hk : k < 2 ^ 31) (hjo : jo ≤ 99) : Met l y_Pt_numbersOfIssue w_Pt_numbersOfIssue ({ frames := 0, cells := 0, slots := 0, locals := 0 }) (va_Pc [.ref pa, .int (nI k)] (wy_R (dC, dI) ga_cl [(pa, .inr (2, [.int (nI pk), .ref ps, .int (nI sd), .int mo, .int (nI jo), .int (nI vo), .int (bo_I re)]))] [])) (vp_Si (fun r => r = nI (pt_nums jo k))) 0 0 (fun _ => False) := by
  refine Met.ofW (cc := b_Pt_numbersOfIssue) (maxL := 2) (ret := (some .int)) (by decide) rfl ?_
  intro p e s m args below meth c s₁ B hml hv
  obtain ⟨rfl, hP, hK, hN⟩ := hv
  have hx := B.exec
  have hb := B.bytes
  have hr := B.returns
  have hts : ∀ w ∈ ga_tbl, w.before _ s = true := fun w h => atoms_spec (ws := w_Pt_numbersOfIssue) B.pre w (List.mem_cons_of_mem _ h)
  have hown : s.vm.findClass "PatternText$Pattern" = some m.cls := findClass_of_methodNamed B.named
  have hlocks := B.notSynchronized
  have hl := lv_entry ([.ref pa, .int (nI k)]) (n := 2) (Nat.le_of_ble_eq_true rfl)
  rw [lg_entry_eq]
  generalize (lg_sl ([.ref pa, .int (nI k)]) ++ List.replicate (2 - (lg_sl ([.ref pa, .int (nI k)])).length) Slot.unset).toArray = ls at hl ⊢
  have hl : lv_has ls 2 [(0, .ref pa), (1, .int (nI k))] := hl
  refine lv_aload_n hx hb d_Pt_numbersOfIssue_0 rfl (lv_at hl 0 rfl) ?_
  refine va_get (D := (dC, dI)) (ci := 2) (v := .int (nI jo)) (C := "PatternText$Pattern") (T := F_Pt) (N := 7) hx hb hts iw_Pt hown hK hP 0 rfl rfl 4 (by decide) (hts _ kw_319) (fun _ h9 => h9) rfl d_Pt_numbersOfIssue_1 ?_
  refine wy_ifleN (tgt := 20) hx hb jo (by omega) d_Pt_numbersOfIssue_4 (by decide) (fun c_4 => ?_) (fun c_4 => ?_)
  · refine lv_iconst (v := 1) hx hb d_Pt_numbersOfIssue_20 (by decide) ?_
    have z9 : pt_nums jo k = 1 := by unfold pt_nums; rw [if_neg (by omega)]
    have q9 : (1 : Int32) = nI (pt_nums jo k) := by rw [z9]; rfl
    exact W.iret (v := 1) hx hb hr (fun t ht _ => ⟨_, rfl, q9, ht⟩) (fun _ h9 => by cases h9) d_Pt_numbersOfIssue_21
  · refine lv_iload_n hx hb d_Pt_numbersOfIssue_7 rfl (lv_at hl 1 rfl) ?_
    refine lv_aload_n hx hb d_Pt_numbersOfIssue_8 rfl (lv_at hl 0 rfl) ?_
    refine va_get (D := (dC, dI)) (ci := 2) (v := .int (nI jo)) (C := "PatternText$Pattern") (T := F_Pt) (N := 7) hx hb hts iw_Pt hown hK hP 0 rfl rfl 4 (by decide) (hts _ kw_319) (fun _ h9 => h9) rfl d_Pt_numbersOfIssue_9 ?_
    refine wy_irem hx hb k jo (by omega) (by omega) (by omega) d_Pt_numbersOfIssue_12 ?_
    have hm := Nat.mod_lt k c_4
    refine wy_ifneN (tgt := 20) hx hb (k % jo) (by omega) d_Pt_numbersOfIssue_13 (by decide) (fun c_13 => ?_) (fun c_13 => ?_)
    · refine lv_iconst (v := 1) hx hb d_Pt_numbersOfIssue_20 (by decide) ?_
      have z9 : pt_nums jo k = 1 := by unfold pt_nums; rw [if_neg (by omega)]
      have q9 : (1 : Int32) = nI (pt_nums jo k) := by rw [z9]; rfl
      exact W.iret (v := 1) hx hb hr (fun t ht _ => ⟨_, rfl, q9, ht⟩) (fun _ h9 => by cases h9) d_Pt_numbersOfIssue_21
    · refine lv_iconst (v := 2) hx hb d_Pt_numbersOfIssue_16 (by decide) ?_
      refine lv_goto (tgt := 21) hx hb d_Pt_numbersOfIssue_17 (by decide) ?_
      have z9 : pt_nums jo k = 2 := by unfold pt_nums; rw [if_pos ⟨c_4, c_13⟩]
      have q9 : (2 : Int32) = nI (pt_nums jo k) := by rw [z9]; rfl
      exact W.iret (v := 2) hx hb hr (fun t ht _ => ⟨_, rfl, q9, ht⟩) (fun _ h9 => by cases h9) d_Pt_numbersOfIssue_21

set_option maxHeartbeats 4000000 in
set_option maxRecDepth 100000 in
theorem c_Pt_volumeOf (l : Launch) (dC : Nat → ClassId) (dI : Nat → Nat → Nat) (pa : Nat) (ps : Nat) (pk : Nat) (sd : Nat) (mo : Int32) (jo : Nat) (vo : Nat) (re : Bool) (k : Nat) (hk1 : 1 ≤ k) (hk : k < 2 ^ 30) (hvo : vo ≤ 99) : Met l y_Pt_volumeOf w_Pt_volumeOf ({ frames := 0, cells := 0, slots := 0, locals := 0 }) (va_Pc [.ref pa, .int (nI k)] (wy_R (dC, dI) ga_cl [(pa, .inr (2, [.int (nI pk), .ref ps, .int (nI sd), .int mo, .int (nI jo), .int (nI vo), .int (bo_I re)]))] [])) (vp_Si (fun r => r = nI (pt_vol vo k))) 0 0 (fun _ => False) := by
  refine Met.ofW (cc := b_Pt_volumeOf) (maxL := 2) (ret := (some .int)) (by decide) rfl ?_
  intro p e s m args below meth c s₁ B hml hv
  obtain ⟨rfl, hP, hK, hN⟩ := hv
  have hx := B.exec
  have hb := B.bytes
  have hr := B.returns
  have hts : ∀ w ∈ ga_tbl, w.before _ s = true := fun w h => atoms_spec (ws := w_Pt_volumeOf) B.pre w (List.mem_cons_of_mem _ h)
  have hown : s.vm.findClass "PatternText$Pattern" = some m.cls := findClass_of_methodNamed B.named
  have hlocks := B.notSynchronized
  have hl := lv_entry ([.ref pa, .int (nI k)]) (n := 2) (Nat.le_of_ble_eq_true rfl)
  rw [lg_entry_eq]
  generalize (lg_sl ([.ref pa, .int (nI k)]) ++ List.replicate (2 - (lg_sl ([.ref pa, .int (nI k)])).length) Slot.unset).toArray = ls at hl ⊢
  have hl : lv_has ls 2 [(0, .ref pa), (1, .int (nI k))] := hl
  refine lv_aload_n hx hb d_Pt_volumeOf_0 rfl (lv_at hl 0 rfl) ?_
  refine va_get (D := (dC, dI)) (ci := 2) (v := .int (nI vo)) (C := "PatternText$Pattern") (T := F_Pt) (N := 7) hx hb hts iw_Pt hown hK hP 0 rfl rfl 5 (by decide) (hts _ kw_320) (fun _ h9 => h9) rfl d_Pt_volumeOf_1 ?_
  refine wy_ifleN (tgt := 20) hx hb vo (by omega) d_Pt_volumeOf_4 (by decide) (fun c_4 => ?_) (fun c_4 => ?_)
  · refine lv_iconst (v := 0) hx hb d_Pt_volumeOf_20 (by decide) ?_
    have z9 : pt_vol vo k = 0 := by unfold pt_vol; rw [if_neg (by omega)]
    have q9 : (0 : Int32) = nI (pt_vol vo k) := by rw [z9]; rfl
    exact W.iret (v := 0) hx hb hr (fun t ht _ => ⟨_, rfl, q9, ht⟩) (fun _ h9 => by cases h9) d_Pt_volumeOf_21
  · refine lv_iload_n hx hb d_Pt_volumeOf_7 rfl (lv_at hl 1 rfl) ?_
    refine lv_iconst (v := 1) hx hb d_Pt_volumeOf_8 (by decide) ?_
    refine wy_isub hx hb k 1 (by omega) d_Pt_volumeOf_9 ?_
    refine lv_aload_n hx hb d_Pt_volumeOf_10 rfl (lv_at hl 0 rfl) ?_
    refine va_get (D := (dC, dI)) (ci := 2) (v := .int (nI vo)) (C := "PatternText$Pattern") (T := F_Pt) (N := 7) hx hb hts iw_Pt hown hK hP 0 rfl rfl 5 (by decide) (hts _ kw_320) (fun _ h9 => h9) rfl d_Pt_volumeOf_11 ?_
    refine wy_idiv hx hb (k - 1) vo (by omega) (by omega) (by omega) d_Pt_volumeOf_14 ?_
    refine lv_iconst (v := 1) hx hb d_Pt_volumeOf_15 (by decide) ?_
    refine wy_iadd hx hb ((k - 1) / vo) 1 d_Pt_volumeOf_16 ?_
    refine lv_goto (tgt := 21) hx hb d_Pt_volumeOf_17 (by decide) ?_
    have z9 : pt_vol vo k = ((k - 1) / vo) + 1 := by unfold pt_vol; rw [if_pos c_4]
    have q9 : (nI (((k - 1) / vo) + 1) : Int32) = nI (pt_vol vo k) := by rw [z9]
    exact W.iret (v := nI (((k - 1) / vo) + 1)) hx hb hr (fun t ht _ => ⟨_, rfl, q9, ht⟩) (fun _ h9 => by cases h9) d_Pt_volumeOf_21

set_option maxHeartbeats 4000000 in
set_option maxRecDepth 100000 in
theorem c_Pt_asTold (l : Launch) (dC : Nat → ClassId) (dI : Nat → Nat → Nat) (pa : Nat) (ps : Nat) (pk : Nat) (sd : Nat) (mo : Int32) (jo : Nat) (vo : Nat) (re : Bool) (k : Nat) (hk1 : 1 ≤ k) (hk : k < 2 ^ 30) (hvo : vo ≤ 99) : Met l y_Pt_asTold w_Pt_asTold ({ frames := 0, cells := 0, slots := 0, locals := 0 }) (va_Pc [.ref pa, .int (nI k)] (wy_R (dC, dI) ga_cl [(pa, .inr (2, [.int (nI pk), .ref ps, .int (nI sd), .int mo, .int (nI jo), .int (nI vo), .int (bo_I re)]))] [])) (vp_Si (fun r => r = nI (pt_told re vo k))) 0 0 (fun _ => False) := by
  refine Met.ofW (cc := b_Pt_asTold) (maxL := 2) (ret := (some .int)) (by decide) rfl ?_
  intro p e s m args below meth c s₁ B hml hv
  obtain ⟨rfl, hP, hK, hN⟩ := hv
  have hx := B.exec
  have hb := B.bytes
  have hr := B.returns
  have hts : ∀ w ∈ ga_tbl, w.before _ s = true := fun w h => atoms_spec (ws := w_Pt_asTold) B.pre w (List.mem_cons_of_mem _ h)
  have hown : s.vm.findClass "PatternText$Pattern" = some m.cls := findClass_of_methodNamed B.named
  have hlocks := B.notSynchronized
  have hl := lv_entry ([.ref pa, .int (nI k)]) (n := 2) (Nat.le_of_ble_eq_true rfl)
  rw [lg_entry_eq]
  generalize (lg_sl ([.ref pa, .int (nI k)]) ++ List.replicate (2 - (lg_sl ([.ref pa, .int (nI k)])).length) Slot.unset).toArray = ls at hl ⊢
  have hl : lv_has ls 2 [(0, .ref pa), (1, .int (nI k))] := hl
  refine lv_aload_n hx hb d_Pt_asTold_0 rfl (lv_at hl 0 rfl) ?_
  refine va_get (D := (dC, dI)) (ci := 2) (v := .int (bo_I re)) (C := "PatternText$Pattern") (T := F_Pt) (N := 7) hx hb hts iw_Pt hown hK hP 0 rfl rfl 6 (by decide) (hts _ kw_321) (fun _ h9 => h9) rfl d_Pt_asTold_1 ?_
  refine wy_ifeqB (tgt := 27) hx hb d_Pt_asTold_4 (by decide) (fun c_4 => ?_) (fun c_4 => ?_)
  · refine lv_iload_n hx hb d_Pt_asTold_27 rfl (lv_at hl 1 rfl) ?_
    have z9 : pt_told re vo k = k := by unfold pt_told; exact if_neg (fun z => by rw [z.1] at c_4; cases c_4)
    have q9 : (nI k : Int32) = nI (pt_told re vo k) := by rw [z9]
    exact W.iret (v := nI k) hx hb hr (fun t ht _ => ⟨_, rfl, q9, ht⟩) (fun _ h9 => by cases h9) d_Pt_asTold_28
  · refine lv_aload_n hx hb d_Pt_asTold_7 rfl (lv_at hl 0 rfl) ?_
    refine va_get (D := (dC, dI)) (ci := 2) (v := .int (nI vo)) (C := "PatternText$Pattern") (T := F_Pt) (N := 7) hx hb hts iw_Pt hown hK hP 0 rfl rfl 5 (by decide) (hts _ kw_320) (fun _ h9 => h9) rfl d_Pt_asTold_8 ?_
    refine wy_ifleN (tgt := 27) hx hb vo (by omega) d_Pt_asTold_11 (by decide) (fun c_11 => ?_) (fun c_11 => ?_)
    · refine lv_iload_n hx hb d_Pt_asTold_27 rfl (lv_at hl 1 rfl) ?_
      have z9 : pt_told re vo k = k := by unfold pt_told; exact if_neg (fun z => by have := z.2; omega)
      have q9 : (nI k : Int32) = nI (pt_told re vo k) := by rw [z9]
      exact W.iret (v := nI k) hx hb hr (fun t ht _ => ⟨_, rfl, q9, ht⟩) (fun _ h9 => by cases h9) d_Pt_asTold_28
    · refine lv_iload_n hx hb d_Pt_asTold_14 rfl (lv_at hl 1 rfl) ?_
      refine lv_iconst (v := 1) hx hb d_Pt_asTold_15 (by decide) ?_
      refine wy_isub hx hb k 1 (by omega) d_Pt_asTold_16 ?_
      refine lv_aload_n hx hb d_Pt_asTold_17 rfl (lv_at hl 0 rfl) ?_
      refine va_get (D := (dC, dI)) (ci := 2) (v := .int (nI vo)) (C := "PatternText$Pattern") (T := F_Pt) (N := 7) hx hb hts iw_Pt hown hK hP 0 rfl rfl 5 (by decide) (hts _ kw_320) (fun _ h9 => h9) rfl d_Pt_asTold_18 ?_
      refine wy_irem hx hb (k - 1) vo (by omega) (by omega) (by omega) d_Pt_asTold_21 ?_
      refine lv_iconst (v := 1) hx hb d_Pt_asTold_22 (by decide) ?_
      refine wy_iadd hx hb ((k - 1) % vo) 1 d_Pt_asTold_23 ?_
      refine lv_goto (tgt := 28) hx hb d_Pt_asTold_24 (by decide) ?_
      have z9 : pt_told re vo k = ((k - 1) % vo) + 1 := by unfold pt_told; exact if_pos ⟨c_4, c_11⟩
      have q9 : (nI (((k - 1) % vo) + 1) : Int32) = nI (pt_told re vo k) := by rw [z9]
      exact W.iret (v := nI (((k - 1) % vo) + 1)) hx hb hr (fun t ht _ => ⟨_, rfl, q9, ht⟩) (fun _ h9 => by cases h9) d_Pt_asTold_28

set_option maxHeartbeats 4000000 in
set_option maxRecDepth 100000 in
theorem c_Ho_dayFrom (l : Launch) (dC : Nat → ClassId) (dI : Nat → Nat → Nat) (ho : Nat) (ha : Nat) (cI : ClassId) (hd : Nat → Int32) (hc : Nat) (d : Nat) (hh : hc ≤ 60) (hd0 : d ≤ 1100000) : Met l y_Ho_dayFrom w_Ho_dayFrom ({ frames := 0, cells := 0, slots := 0, locals := 0 }) (va_Pc [.ref ho, .int (nI d)] (wy_R (dC, dI) ga_cl [(ho, .inr (0, [.ref ha, .int (nI hc)])), (ha, .inl (cI, 60, .inl hd))] [(cI, .int)])) (vp_Si (fun r => r = nI (ho_nx hd hc 0 d))) 0 0 (fun _ => False) := by
  refine Met.ofW (cc := b_Ho_dayFrom) (maxL := 4) (ret := (some .int)) (by decide) rfl ?_
  intro p e s m args below meth c s₁ B hml hv
  obtain ⟨rfl, hP, hK, hN⟩ := hv
  have hx := B.exec
  have hb := B.bytes
  have hr := B.returns
  have hts : ∀ w ∈ ga_tbl, w.before _ s = true := fun w h => atoms_spec (ws := w_Ho_dayFrom) B.pre w (List.mem_cons_of_mem _ h)
  have hown : s.vm.findClass "PatternText$Holidays" = some m.cls := findClass_of_methodNamed B.named
  have hlocks := B.notSynchronized
  have hl := lv_entry ([.ref ho, .int (nI d)]) (n := 4) (Nat.le_of_ble_eq_true rfl)
  rw [lg_entry_eq]
  generalize (lg_sl ([.ref ho, .int (nI d)]) ++ List.replicate (4 - (lg_sl ([.ref ho, .int (nI d)])).length) Slot.unset).toArray = ls at hl ⊢
  have hl : lv_has ls 4 [(0, .ref ho), (1, .int (nI d))] := hl
  obtain ⟨Q0, hQ⟩ : ∃ Q0 : State → Prop, Q0 = MQ below (vp_Si (fun r => r = nI (ho_nx hd hc 0 d))) ([.ref ho, .int (nI d)] : List Value).toArray s 0 0 (fun _ => False) := ⟨_, rfl⟩
  show W p l e ({ frames := 0, cells := 0, slots := 0, locals := 0 }) s m ([.ref ho, .int (nI d)] : List Value).toArray below meth c s.heap [] 0 0 (MQ below (vp_Si (fun r => r = nI (ho_nx hd hc 0 d))) ([.ref ho, .int (nI d)] : List Value).toArray s 0 0 (fun _ => False)) (F0 m 0 ls [])
  rw [← hQ]
  refine lv_iload_n hx hb d_Ho_dayFrom_0 rfl (lv_at hl 1 rfl) ?_
  refine lv_istore_n (lv' := [(2, .int (nI d)), (0, .ref ho), (1, .int (nI d))]) hx hb d_Ho_dayFrom_1 rfl hl (by decide) rfl (fun ls hl => ?_)
  refine lv_iconst (v := 0) hx hb d_Ho_dayFrom_2 (by decide) ?_
  refine lv_istore_n (lv' := [(3, .int 0), (2, .int (nI d)), (0, .ref ho), (1, .int (nI d))]) hx hb d_Ho_dayFrom_3 rfl hl (by decide) rfl (fun ls hl => ?_)
  have loop_4 : ∀ (fu : Nat) (k : Nat) (x : Nat), (x ≤ d + k) → (k ≤ hc) → (ho_nx hd (hc - k) k x = ho_nx hd hc 0 d) → hc - k < fu → ∀ (ls : Array Slot), lv_has ls 4 [(0, .ref ho), (1, .int (nI d)), (2, .int (nI x)), (3, .int (nI k))] → W p l e ({ frames := 0, cells := 0, slots := 0, locals := 0 }) s m ([.ref ho, .int (nI d)] : List Value).toArray below meth c s.heap [] 0 0 Q0 (F0 m 4 ls []) := by
    intro fu
    induction fu with
    | zero => intro k x h1 h2 hR hmu; exact absurd hmu (Nat.not_lt_zero _)
    | succ fu ih_4 =>
      intro k x h1 h2 hR hmu ls hl
      refine lv_iload_n hx hb d_Ho_dayFrom_4 rfl (lv_at hl 3 rfl) ?_
      refine lv_aload_n hx hb d_Ho_dayFrom_5 rfl (lv_at hl 0 rfl) ?_
      refine va_get (D := (dC, dI)) (ci := 0) (v := .int (nI hc)) (C := "PatternText$Holidays") (T := F_Ho) (N := 2) hx hb hts iw_Ho hown hK hP 0 rfl rfl 1 (by decide) (hts _ kw_103) (fun _ h9 => h9) rfl d_Ho_dayFrom_6 ?_
      refine wy_icmp_ge (tgt := 31) hx hb k hc (by omega) (by omega) d_Ho_dayFrom_9 (by decide) (fun c_9 => ?_) (fun c_9 => ?_)
      · refine lv_iload_n hx hb d_Ho_dayFrom_31 rfl (lv_at hl 2 rfl) ?_
        rw [hQ]
        have z9 : ho_nx hd hc 0 d = x := by rw [← hR]; exact ho_nx_0 c_9
        have q9 : (nI x : Int32) = nI (ho_nx hd hc 0 d) := by rw [z9]
        exact W.iret (v := nI x) hx hb hr (fun t ht _ => ⟨_, rfl, q9, ht⟩) (fun _ h9 => by cases h9) d_Ho_dayFrom_32
      · refine lv_aload_n hx hb d_Ho_dayFrom_12 rfl (lv_at hl 0 rfl) ?_
        refine va_get (D := (dC, dI)) (ci := 0) (v := .ref ha) (C := "PatternText$Holidays") (T := F_Ho) (N := 2) hx hb hts iw_Ho hown hK hP 0 rfl rfl 0 (by decide) (hts _ kw_102) (fun _ h9 => h9) rfl d_Ho_dayFrom_13 ?_
        refine lv_iload_n hx hb d_Ho_dayFrom_16 rfl (lv_at hl 3 rfl) ?_
        refine wy_iald hx hb hK hP 1 0 k rfl rfl (by omega) (by omega) d_Ho_dayFrom_17 ?_
        refine lv_iload_n hx hb d_Ho_dayFrom_18 rfl (lv_at hl 2 rfl) ?_
        refine lv_icmp_ne (tgt := 25) hx hb d_Ho_dayFrom_19 (by decide) (fun c_19 => ?_) (fun c_19 => ?_)
        · refine wy_iinc (x := k) (lv' := [(3, .int (nI (k + 1))), (0, .ref ho), (1, .int (nI d)), (2, .int (nI x))]) hx hb d_Ho_dayFrom_25 hl (k := 3) rfl (by decide) rfl (fun ls hl => ?_)
          refine lv_goto (tgt := 4) hx hb d_Ho_dayFrom_28 (by decide) ?_
          exact ih_4 (k + 1) x (by omega) (by omega) (by rw [← hR, ho_nx_go c_9]; first | rw [if_pos c_19] | rw [if_neg c_19]) (by omega) ls (lv_sub hl [1, 2, 3, 0] rfl)
        · refine wy_iinc (x := x) (lv' := [(2, .int (nI (x + 1))), (0, .ref ho), (1, .int (nI d)), (3, .int (nI k))]) hx hb d_Ho_dayFrom_22 hl (k := 2) rfl (by decide) rfl (fun ls hl => ?_)
          refine wy_iinc (x := k) (lv' := [(3, .int (nI (k + 1))), (2, .int (nI (x + 1))), (0, .ref ho), (1, .int (nI d))]) hx hb d_Ho_dayFrom_25 hl (k := 3) rfl (by decide) rfl (fun ls hl => ?_)
          refine lv_goto (tgt := 4) hx hb d_Ho_dayFrom_28 (by decide) ?_
          exact ih_4 (k + 1) (x + 1) (by omega) (by omega) (by rw [← hR, ho_nx_go c_9]; first | rw [if_pos c_19] | rw [if_neg c_19]) (by omega) ls (lv_sub hl [2, 3, 1, 0] rfl)
  exact loop_4 _ 0 d (by omega) (by omega) (rfl) (Nat.lt_succ_self _) ls (lv_sub hl [2, 3, 1, 0] rfl)

set_option maxHeartbeats 4000000 in
set_option maxRecDepth 100000 in
theorem c_Ho_add (l : Launch) (dC : Nat → ClassId) (dI : Nat → Nat → Nat) (sz : Nat) (ho : Nat) (ha : Nat) (cI : ClassId) (hd : Nat → Int32) (hc : Nat) (d : Nat) (hh : hc ≤ 60) (hd0 : d ≤ 1000000) : Met l y_Ho_add w_Ho_add ({ frames := 1, cells := 0, slots := 0, locals := 23 }) (va_Pc [.ref ho, .int (nI d)] (wy_M (dC, dI) ga_cl [(ho, .inr (0, [.ref ha, .int (nI hc)])), (ha, .inl (cI, 60, .inl hd))] [(cI, .int)] sz)) (va_Qi (fun (r : Int32) (_ : Unit) => r = bo_I (decide (hc < 60 ∧ ho_nx hd hc 0 d = d))) (fun _ => wy_N (dC, dI) ga_cl [(cI, .int)] (va_A [(ho, .inr (0, [.ref ha, .int (nI hc)])), (ha, .inl (cI, 60, .inl hd))] sz) [(ho, .inr (0, [.ref ha, .int (nI (cond (decide (hc < 60 ∧ ho_nx hd hc 0 d = d)) (hc + 1) hc))])), (ha, .inl (cI, 60, .inl (cond (decide (hc < 60 ∧ ho_nx hd hc 0 d = d)) (upd (ho_ins (nI d) hc hd).2 (ho_ins (nI d) hc hd).1 (nI d)) hd)))]) (va_A [(ho, .inr (0, [.ref ha, .int (nI hc)])), (ha, .inl (cI, 60, .inl hd))] sz)) 0 0 (va_A [(ho, .inr (0, [.ref ha, .int (nI hc)])), (ha, .inl (cI, 60, .inl hd))] sz) := by
  refine Met.ofW (cc := b_Ho_add) (maxL := 3) (ret := (some .boolean)) (by decide) rfl ?_
  intro p e s m args below meth c s₁ B hml hv
  obtain ⟨rfl, hsz, hP, hK, hN, hD0⟩ := hv
  have hx := B.exec
  have hb := B.bytes
  have hr := B.returns
  have hts : ∀ w ∈ ga_tbl, w.before _ s = true := fun w h => atoms_spec (ws := w_Ho_add) B.pre w (List.mem_cons_of_mem _ h)
  have hown : s.vm.findClass "PatternText$Holidays" = some m.cls := findClass_of_methodNamed B.named
  have hlocks := B.notSynchronized
  subst hsz
  have hD := hD0.self (sz := s.heap.size)
  generalize hAe : va_A [(ho, .inr (0, [.ref ha, .int (nI hc)])), (ha, .inl (cI, 60, .inl hd))] s.heap.size = A at hD ⊢
  have hA : ∀ q : Nat, s.heap.size ≤ q → A q := fun q h => by rw [← hAe]; exact Or.inr h
  have hS : va_S A s.heap s.heap [] := va_S.rf
  have hl := lv_entry ([.ref ho, .int (nI d)]) (n := 3) (Nat.le_of_ble_eq_true rfl)
  rw [lg_entry_eq]
  generalize (lg_sl ([.ref ho, .int (nI d)]) ++ List.replicate (3 - (lg_sl ([.ref ho, .int (nI d)])).length) Slot.unset).toArray = ls at hl ⊢
  have hl : lv_has ls 3 [(0, .ref ho), (1, .int (nI d))] := hl
  obtain ⟨Q0, hQ⟩ : ∃ Q0 : State → Prop, Q0 = MQ below (va_Qi (fun (r : Int32) (_ : Unit) => r = bo_I (decide (hc < 60 ∧ ho_nx hd hc 0 d = d))) (fun _ => wy_N (dC, dI) ga_cl [(cI, .int)] A [(ho, .inr (0, [.ref ha, .int (nI (cond (decide (hc < 60 ∧ ho_nx hd hc 0 d = d)) (hc + 1) hc))])), (ha, .inl (cI, 60, .inl (cond (decide (hc < 60 ∧ ho_nx hd hc 0 d = d)) (upd (ho_ins (nI d) hc hd).2 (ho_ins (nI d) hc hd).1 (nI d)) hd)))]) A) ([.ref ho, .int (nI d)] : List Value).toArray s 0 0 A := ⟨_, rfl⟩
  show W p l e ({ frames := 1, cells := 0, slots := 0, locals := 23 }) s m ([.ref ho, .int (nI d)] : List Value).toArray below meth c s.heap [] 0 0 (MQ below (va_Qi (fun (r : Int32) (_ : Unit) => r = bo_I (decide (hc < 60 ∧ ho_nx hd hc 0 d = d))) (fun _ => wy_N (dC, dI) ga_cl [(cI, .int)] A [(ho, .inr (0, [.ref ha, .int (nI (cond (decide (hc < 60 ∧ ho_nx hd hc 0 d = d)) (hc + 1) hc))])), (ha, .inl (cI, 60, .inl (cond (decide (hc < 60 ∧ ho_nx hd hc 0 d = d)) (upd (ho_ins (nI d) hc hd).2 (ho_ins (nI d) hc hd).1 (nI d)) hd)))]) A) ([.ref ho, .int (nI d)] : List Value).toArray s 0 0 A) (F0 m 0 ls [])
  rw [← hQ]
  have hnx := ho_nx_le (h := hd) hc 0 d
  refine lv_aload_n hx hb d_Ho_add_0 rfl (lv_at hl 0 rfl) ?_
  refine va_get (D := (dC, dI)) (ci := 0) (v := .int (nI hc)) (C := "PatternText$Holidays") (T := F_Ho) (N := 2) hx hb hts iw_Ho hown hK hP 0 rfl rfl 1 (by decide) (hts _ kw_103) (fun _ h9 => h9) rfl d_Ho_add_1 ?_
  refine lv_bipush (v := 60) hx hb d_Ho_add_4 (by decide) ?_
  refine wy_icmp_ge (tgt := 18) hx hb hc 60 (by omega) (by omega) d_Ho_add_6 (by decide) (fun c_6 => ?_) (fun c_6 => ?_)
  · refine lv_iconst (v := 0) hx hb d_Ho_add_18 (by decide) ?_
    rw [hQ]
    have z9 : decide (hc < 60 ∧ ho_nx hd hc 0 d = d) = false := by first | exact decide_eq_false (fun z => by have := z.1; omega) | exact decide_eq_false (fun z => c_15 (by rw [z.2]))
    have q9 : (0 : Int32) = bo_I (decide (hc < 60 ∧ ho_nx hd hc 0 d = d)) := by rw [z9]; rfl
    have e9 : ([(ho, .inr (0, [.ref ha, .int (nI (cond (decide (hc < 60 ∧ ho_nx hd hc 0 d = d)) (hc + 1) hc))])), (ha, .inl (cI, 60, .inl (cond (decide (hc < 60 ∧ ho_nx hd hc 0 d = d)) (upd (ho_ins (nI d) hc hd).2 (ho_ins (nI d) hc hd).1 (nI d)) hd)))] : va_W) = [(ho, .inr (0, [.ref ha, .int (nI hc)])), (ha, .inl (cI, 60, .inl hd))] := by rw [z9]; rfl
    exact W.zret (v := 0) hx hb hr rfl (fun t ht hW => ⟨⟨_, (), rfl, q9, by rw [ht, e9]; exact hP, va_K.moved hW.alike hK, by rw [e9]; exact hD⟩, hS.F ht⟩) hS.2.2 d_Ho_add_19
  · refine lv_aload_n hx hb d_Ho_add_9 rfl (lv_at hl 0 rfl) ?_
    refine lv_iload_n hx hb d_Ho_add_10 rfl (lv_at hl 1 rfl) ?_
    refine vp_callSi (va_runV (As := [.int (nI d)]) (rest := []) ⟨hx, hb, hml, hown, hts⟩ (c_Ho_dayFrom l dC dI ho ha cI hd hc d (by omega) (by omega)) (cwV 1 hts (ga_V kw_438 kw_372 kw_373 kw_36 (ga_in kw_374)) rfl rfl rfl (by decide +kernel) ⟨Nat.le_of_ble_eq_true rfl, Nat.le_of_ble_eq_true rfl⟩) (wy_preV 0 (hP.sub (ws' := [(ho, .inr (0, [.ref ha, .int (nI hc)])), (ha, .inl (cI, 60, .inl hd))]) [0, 1] rfl) (hK.sub (tys' := [(cI, .int)]) [0] rfl) hN (ci := 0) rfl rfl rfl) rfl rfl hl.1 rfl (lv_room (Nat.le_of_ble_eq_true rfl)) d_Ho_add_11 ⟨Nat.le_of_ble_eq_true rfl, Nat.le_of_ble_eq_true rfl⟩).run (fun r_11 h_11 => ?_)
    subst h_11
    refine lv_iload_n hx hb d_Ho_add_14 rfl (lv_at hl 1 rfl) ?_
    refine lv_icmp_eq (tgt := 20) hx hb d_Ho_add_15 (by decide) (fun c_15 => ?_) (fun c_15 => ?_)
    · refine lv_aload_n hx hb d_Ho_add_20 rfl (lv_at hl 0 rfl) ?_
      refine va_get (D := (dC, dI)) (ci := 0) (v := .int (nI hc)) (C := "PatternText$Holidays") (T := F_Ho) (N := 2) hx hb hts iw_Ho hown hK hP 0 rfl rfl 1 (by decide) (hts _ kw_103) (fun _ h9 => h9) rfl d_Ho_add_21 ?_
      refine lv_istore_n (lv' := [(2, .int (nI hc)), (0, .ref ho), (1, .int (nI d))]) hx hb d_Ho_add_24 rfl hl (by decide) rfl (fun ls hl => ?_)
      have loop_25 : ∀ (fu : Nat) (pz : Nat) (hq : Nat → Int32), (pz ≤ hc) → (ho_ins (nI d) pz hq = ho_ins (nI d) hc hd) → pz < fu → ∀ (H : Heap) (locs : List Loc), va_P (dC, dI) ga_cl [(ho, .inr (0, [.ref ha, .int (nI hc)])), (ha, .inl (cI, 60, .inl hq))] H → va_D A [(ho, .inr (0, [.ref ha, .int (nI hc)])), (ha, .inl (cI, 60, .inl hq))] → va_S A s.heap H locs → ∀ (ls : Array Slot), lv_has ls 3 [(0, .ref ho), (1, .int (nI d)), (2, .int (nI pz))] → W p l e ({ frames := 1, cells := 0, slots := 0, locals := 23 }) s m ([.ref ho, .int (nI d)] : List Value).toArray below meth c H locs 0 0 Q0 (F0 m 25 ls []) := by
        intro fu
        induction fu with
        | zero => intro pz hq h1 hR hmu; exact absurd hmu (Nat.not_lt_zero _)
        | succ fu ih_25 =>
          intro pz hq h1 hR hmu H locs hP hD hS ls hl
          have join_61 : (ho_ins (nI d) hc hd = (pz, hq)) → ∀ (H : Heap) (locs : List Loc), va_P (dC, dI) ga_cl [(ho, .inr (0, [.ref ha, .int (nI hc)])), (ha, .inl (cI, 60, .inl hq))] H → va_D A [(ho, .inr (0, [.ref ha, .int (nI hc)])), (ha, .inl (cI, 60, .inl hq))] → va_S A s.heap H locs → ∀ (ls : Array Slot), lv_has ls 3 [(0, .ref ho), (1, .int (nI d)), (2, .int (nI pz))] → W p l e ({ frames := 1, cells := 0, slots := 0, locals := 23 }) s m ([.ref ho, .int (nI d)] : List Value).toArray below meth c H locs 0 0 Q0 (F0 m 61 ls []) := by
            intro  hX H locs hP hD hS ls hl
            refine lv_aload_n hx hb d_Ho_add_61 rfl (lv_at hl 0 rfl) ?_
            refine va_get (D := (dC, dI)) (ci := 0) (v := .ref ha) (C := "PatternText$Holidays") (T := F_Ho) (N := 2) hx hb hts iw_Ho hown hK hP 0 rfl rfl 0 (by decide) (hts _ kw_102) (fun _ h9 => h9) rfl d_Ho_add_62 ?_
            refine lv_iload_n hx hb d_Ho_add_65 rfl (lv_at hl 2 rfl) ?_
            refine lv_iload_n hx hb d_Ho_add_66 rfl (lv_at hl 1 rfl) ?_
            refine wy_iast hx hb hK hP hD hS 1 0 pz rfl rfl (by omega) (by omega) d_Ho_add_67 (fun H locs hP hD hS => ?_)
            have hP : va_P (dC, dI) ga_cl [(ho, .inr (0, [.ref ha, .int (nI hc)])), (ha, .inl (cI, 60, .inl (upd hq pz (nI d))))] H := hP
            have hD : va_D A [(ho, .inr (0, [.ref ha, .int (nI hc)])), (ha, .inl (cI, 60, .inl (upd hq pz (nI d))))] := hD
            refine lv_aload_n hx hb d_Ho_add_68 rfl (lv_at hl 0 rfl) ?_
            refine lv_dup hx hb d_Ho_add_69 rfl ?_
            refine va_get (D := (dC, dI)) (ci := 0) (v := .int (nI hc)) (C := "PatternText$Holidays") (T := F_Ho) (N := 2) hx hb hts iw_Ho hown hK hP 0 rfl rfl 1 (by decide) (hts _ kw_103) (fun _ h9 => h9) rfl d_Ho_add_70 ?_
            refine lv_iconst (v := 1) hx hb d_Ho_add_73 (by decide) ?_
            refine wy_iadd hx hb hc 1 d_Ho_add_74 ?_
            refine va_put (D := (dC, dI)) (ci := 0) (v := .int (nI (hc + 1))) (ty := .int) (C := "PatternText$Holidays") (T := F_Ho) (N := 2) hx hb hts iw_Ho t_Ho t_Ho_ok n_Ho hown hK hP hD hS 0 rfl rfl 1 (by decide) (hts _ kw_103) (fun _ h9 => h9) rfl (by decide +kernel) rfl rfl (Nat.le_of_ble_eq_true rfl) d_Ho_add_75 (fun H locs hP hD hS => ?_)
            have hP : va_P (dC, dI) ga_cl [(ho, .inr (0, [.ref ha, .int (nI (hc + 1))])), (ha, .inl (cI, 60, .inl (upd hq pz (nI d))))] H := hP
            have hD : va_D A [(ho, .inr (0, [.ref ha, .int (nI (hc + 1))])), (ha, .inl (cI, 60, .inl (upd hq pz (nI d))))] := hD
            refine lv_iconst (v := 1) hx hb d_Ho_add_78 (by decide) ?_
            rw [hQ]
            have z9 : decide (hc < 60 ∧ ho_nx hd hc 0 d = d) = true := by exact decide_eq_true ⟨c_6, (nI_eq (by omega) (by omega)).mp c_15⟩
            have q9 : (1 : Int32) = bo_I (decide (hc < 60 ∧ ho_nx hd hc 0 d = d)) := by rw [z9]; rfl
            have e9 : ([(ho, .inr (0, [.ref ha, .int (nI (cond (decide (hc < 60 ∧ ho_nx hd hc 0 d = d)) (hc + 1) hc))])), (ha, .inl (cI, 60, .inl (cond (decide (hc < 60 ∧ ho_nx hd hc 0 d = d)) (upd (ho_ins (nI d) hc hd).2 (ho_ins (nI d) hc hd).1 (nI d)) hd)))] : va_W) = [(ho, .inr (0, [.ref ha, .int (nI (hc + 1))])), (ha, .inl (cI, 60, .inl (upd hq pz (nI d))))] := by rw [z9, hX]; rfl
            exact W.zret (v := 1) hx hb hr rfl (fun t ht hW => ⟨⟨_, (), rfl, q9, by rw [ht, e9]; exact hP, va_K.moved hW.alike hK, by rw [e9]; exact hD⟩, hS.F ht⟩) hS.2.2 d_Ho_add_79
          refine lv_iload_n hx hb d_Ho_add_25 rfl (lv_at hl 2 rfl) ?_
          refine wy_ifleN (tgt := 61) hx hb pz (by omega) d_Ho_add_26 (by decide) (fun c_26 => ?_) (fun c_26 => ?_)
          · exact join_61 (by first | (rw [← hR, c_26]; rfl) | (rw [← hR, ho_ins, if_pos (show hq q ≤ nI d from c_38)])) H locs hP hD hS ls (lv_sub hl [0, 1, 2] rfl)
          · obtain ⟨q, rfl⟩ : ∃ q, pz = q + 1 := ⟨pz - 1, by omega⟩
            refine lv_aload_n hx hb d_Ho_add_29 rfl (lv_at hl 0 rfl) ?_
            refine va_get (D := (dC, dI)) (ci := 0) (v := .ref ha) (C := "PatternText$Holidays") (T := F_Ho) (N := 2) hx hb hts iw_Ho hown hK hP 0 rfl rfl 0 (by decide) (hts _ kw_102) (fun _ h9 => h9) rfl d_Ho_add_30 ?_
            refine lv_iload_n hx hb d_Ho_add_33 rfl (lv_at hl 2 rfl) ?_
            refine lv_iconst (v := 1) hx hb d_Ho_add_34 (by decide) ?_
            refine wy_isub hx hb (q + 1) 1 (by omega) d_Ho_add_35 ?_
            refine wy_iald hx hb hK hP 1 0 ((q + 1) - 1) rfl rfl (by omega) (by omega) d_Ho_add_36 ?_
            refine lv_iload_n hx hb d_Ho_add_37 rfl (lv_at hl 1 rfl) ?_
            refine lv_icmp_le (tgt := 61) hx hb d_Ho_add_38 (by decide) (fun c_38 => ?_) (fun c_38 => ?_)
            · exact join_61 (by first | (rw [← hR, c_26]; rfl) | (rw [← hR, ho_ins, if_pos (show hq q ≤ nI d from c_38)])) H locs hP hD hS ls (lv_sub hl [0, 1, 2] rfl)
            · refine lv_aload_n hx hb d_Ho_add_41 rfl (lv_at hl 0 rfl) ?_
              refine va_get (D := (dC, dI)) (ci := 0) (v := .ref ha) (C := "PatternText$Holidays") (T := F_Ho) (N := 2) hx hb hts iw_Ho hown hK hP 0 rfl rfl 0 (by decide) (hts _ kw_102) (fun _ h9 => h9) rfl d_Ho_add_42 ?_
              refine lv_iload_n hx hb d_Ho_add_45 rfl (lv_at hl 2 rfl) ?_
              refine lv_aload_n hx hb d_Ho_add_46 rfl (lv_at hl 0 rfl) ?_
              refine va_get (D := (dC, dI)) (ci := 0) (v := .ref ha) (C := "PatternText$Holidays") (T := F_Ho) (N := 2) hx hb hts iw_Ho hown hK hP 0 rfl rfl 0 (by decide) (hts _ kw_102) (fun _ h9 => h9) rfl d_Ho_add_47 ?_
              refine lv_iload_n hx hb d_Ho_add_50 rfl (lv_at hl 2 rfl) ?_
              refine lv_iconst (v := 1) hx hb d_Ho_add_51 (by decide) ?_
              refine wy_isub hx hb (q + 1) 1 (by omega) d_Ho_add_52 ?_
              refine wy_iald hx hb hK hP 1 0 ((q + 1) - 1) rfl rfl (by omega) (by omega) d_Ho_add_53 ?_
              refine wy_iast hx hb hK hP hD hS 1 0 (q + 1) rfl rfl (by omega) (by omega) d_Ho_add_54 (fun H locs hP hD hS => ?_)
              have hP : va_P (dC, dI) ga_cl [(ho, .inr (0, [.ref ha, .int (nI hc)])), (ha, .inl (cI, 60, .inl (upd hq (q + 1) (hq ((q + 1) - 1)))))] H := hP
              have hD : va_D A [(ho, .inr (0, [.ref ha, .int (nI hc)])), (ha, .inl (cI, 60, .inl (upd hq (q + 1) (hq ((q + 1) - 1)))))] := hD
              refine lv_iinc (v := nI ((q + 1) - 1)) (lv' := [(2, .int (nI ((q + 1) - 1))), (0, .ref ho), (1, .int (nI d))]) hx hb d_Ho_add_55 hl (k := 2) rfl (sb_m1 (by omega)) (by decide) rfl (fun ls hl => ?_)
              refine lv_goto (tgt := 25) hx hb d_Ho_add_58 (by decide) ?_
              exact ih_25 ((q + 1) - 1) (upd hq (q + 1) (hq ((q + 1) - 1))) (by omega) (by rw [← hR, ho_ins, if_neg (show ¬ hq q ≤ nI d from c_38)]; rfl) (by omega) H locs hP hD hS ls (lv_sub hl [1, 2, 0] rfl)
      exact loop_25 _ hc hd (by omega) (rfl) (Nat.lt_succ_self _) s.heap ([]) hP hD hS ls (lv_sub hl [1, 2, 0] rfl)
    · refine lv_iconst (v := 0) hx hb d_Ho_add_18 (by decide) ?_
      rw [hQ]
      have z9 : decide (hc < 60 ∧ ho_nx hd hc 0 d = d) = false := by first | exact decide_eq_false (fun z => by have := z.1; omega) | exact decide_eq_false (fun z => c_15 (by rw [z.2]))
      have q9 : (0 : Int32) = bo_I (decide (hc < 60 ∧ ho_nx hd hc 0 d = d)) := by rw [z9]; rfl
      have e9 : ([(ho, .inr (0, [.ref ha, .int (nI (cond (decide (hc < 60 ∧ ho_nx hd hc 0 d = d)) (hc + 1) hc))])), (ha, .inl (cI, 60, .inl (cond (decide (hc < 60 ∧ ho_nx hd hc 0 d = d)) (upd (ho_ins (nI d) hc hd).2 (ho_ins (nI d) hc hd).1 (nI d)) hd)))] : va_W) = [(ho, .inr (0, [.ref ha, .int (nI hc)])), (ha, .inl (cI, 60, .inl hd))] := by rw [z9]; rfl
      exact W.zret (v := 0) hx hb hr rfl (fun t ht hW => ⟨⟨_, (), rfl, q9, by rw [ht, e9]; exact hP, va_K.moved hW.alike hK, by rw [e9]; exact hD⟩, hS.F ht⟩) hS.2.2 d_Ho_add_19

set_option maxHeartbeats 4000000 in
set_option maxRecDepth 100000 in
theorem c_Li_has (l : Launch) (dC : Nat → ClassId) (dI : Nat → Nat → Nat) (li : Nat) (a0 : Nat) (a1 : Nat) (a2 : Nat) (a3 : Nat) (a4 : Nat) (a5 : Nat) (a6 : Nat) (a7 : Nat) (a8 : Nat) (ns : Nat) (x : Int32) : Met l y_Li_has w_Li_has ({ frames := 0, cells := 0, slots := 0, locals := 0 }) (va_Pc [.ref li, .int x] (wy_R (dC, dI) ga_cl [(li, .inr (1, [.ref a0, .ref a1, .ref a2, .ref a3, .ref a4, .ref a5, .ref a6, .ref a7, .ref a8, .int (nI ns)]))] [])) (vp_Si (fun r => r = bo_I (li_has ns x))) 0 0 (fun _ => False) := by
  refine Met.ofW (cc := b_Li_has) (maxL := 2) (ret := (some .boolean)) (by decide) rfl ?_
  intro p e s m args below meth c s₁ B hml hv
  obtain ⟨rfl, hP, hK, hN⟩ := hv
  have hx := B.exec
  have hb := B.bytes
  have hr := B.returns
  have hts : ∀ w ∈ ga_tbl, w.before _ s = true := fun w h => atoms_spec (ws := w_Li_has) B.pre w (List.mem_cons_of_mem _ h)
  have hown : s.vm.findClass "PatternText$IssueList" = some m.cls := findClass_of_methodNamed B.named
  have hlocks := B.notSynchronized
  have hl := lv_entry ([.ref li, .int x]) (n := 2) (Nat.le_of_ble_eq_true rfl)
  rw [lg_entry_eq]
  generalize (lg_sl ([.ref li, .int x]) ++ List.replicate (2 - (lg_sl ([.ref li, .int x])).length) Slot.unset).toArray = ls at hl ⊢
  have hl : lv_has ls 2 [(0, .ref li), (1, .int x)] := hl
  refine lv_iload_n hx hb d_Li_has_0 rfl (lv_at hl 1 rfl) ?_
  refine lv_if_lt (tgt := 16) hx hb d_Li_has_1 (by decide) (fun c_1 => ?_) (fun c_1 => ?_)
  · refine lv_iconst (v := 0) hx hb d_Li_has_16 (by decide) ?_
    have z9 : li_has ns x = false := by simp only [li_has, Bool.and_eq_false_iff, decide_eq_false_iff_not]; first | exact Or.inl (Int32.not_le.mpr c_1) | exact Or.inr (Int32.not_lt.mpr c_9)
    have q9 : (0 : Int32) = bo_I (li_has ns x) := by rw [z9]; rfl
    exact W.zret (v := 0) hx hb hr rfl (fun t ht _ => ⟨_, rfl, q9, ht⟩) (fun _ h9 => by cases h9) d_Li_has_17
  · refine lv_iload_n hx hb d_Li_has_4 rfl (lv_at hl 1 rfl) ?_
    refine lv_aload_n hx hb d_Li_has_5 rfl (lv_at hl 0 rfl) ?_
    refine va_get (D := (dC, dI)) (ci := 1) (v := .int (nI ns)) (C := "PatternText$IssueList") (T := F_Li) (N := 10) hx hb hts iw_Li hown hK hP 0 rfl rfl 9 (by decide) (hts _ kw_132) (fun _ h9 => h9) rfl d_Li_has_6 ?_
    refine lv_icmp_ge (tgt := 16) hx hb d_Li_has_9 (by decide) (fun c_9 => ?_) (fun c_9 => ?_)
    · refine lv_iconst (v := 0) hx hb d_Li_has_16 (by decide) ?_
      have z9 : li_has ns x = false := by simp only [li_has, Bool.and_eq_false_iff, decide_eq_false_iff_not]; first | exact Or.inl (Int32.not_le.mpr c_1) | exact Or.inr (Int32.not_lt.mpr c_9)
      have q9 : (0 : Int32) = bo_I (li_has ns x) := by rw [z9]; rfl
      exact W.zret (v := 0) hx hb hr rfl (fun t ht _ => ⟨_, rfl, q9, ht⟩) (fun _ h9 => by cases h9) d_Li_has_17
    · refine lv_iconst (v := 1) hx hb d_Li_has_12 (by decide) ?_
      refine lv_goto (tgt := 17) hx hb d_Li_has_13 (by decide) ?_
      have z9 : li_has ns x = true := by simp only [li_has, Bool.and_eq_true, decide_eq_true_eq]; exact ⟨Int32.not_lt.mp c_1, Int32.not_le.mp c_9⟩
      have q9 : (1 : Int32) = bo_I (li_has ns x) := by rw [z9]; rfl
      exact W.zret (v := 1) hx hb hr rfl (fun t ht _ => ⟨_, rfl, q9, ht⟩) (fun _ h9 => by cases h9) d_Li_has_17

set_option maxHeartbeats 4000000 in
set_option maxRecDepth 100000 in
theorem c_Li_isOut (l : Launch) (dC : Nat → ClassId) (dI : Nat → Nat → Nat) (li : Nat) (a0 : Nat) (a1 : Nat) (a2 : Nat) (a3 : Nat) (a4 : Nat) (a5 : Nat) (a6 : Nat) (a7 : Nat) (a8 : Nat) (ns : Nat) (cI : ClassId) (fc : Nat → Int32) (x : Int32) (hn : ns ≤ 100) : Met l y_Li_isOut w_Li_isOut ({ frames := 1, cells := 0, slots := 0, locals := 21 }) (va_Pc [.ref li, .int x] (wy_R (dC, dI) ga_cl [(li, .inr (1, [.ref a0, .ref a1, .ref a2, .ref a3, .ref a4, .ref a5, .ref a6, .ref a7, .ref a8, .int (nI ns)])), (a8, .inl (cI, 100, .inl fc))] [(cI, .int)])) (vp_Si (fun r => r = bo_I (li_out ns fc x))) 0 0 (fun _ => False) := by
  refine Met.ofW (cc := b_Li_isOut) (maxL := 2) (ret := (some .boolean)) (by decide) rfl ?_
  intro p e s m args below meth c s₁ B hml hv
  obtain ⟨rfl, hP, hK, hN⟩ := hv
  have hx := B.exec
  have hb := B.bytes
  have hr := B.returns
  have hts : ∀ w ∈ ga_tbl, w.before _ s = true := fun w h => atoms_spec (ws := w_Li_isOut) B.pre w (List.mem_cons_of_mem _ h)
  have hown : s.vm.findClass "PatternText$IssueList" = some m.cls := findClass_of_methodNamed B.named
  have hlocks := B.notSynchronized
  have hl := lv_entry ([.ref li, .int x]) (n := 2) (Nat.le_of_ble_eq_true rfl)
  rw [lg_entry_eq]
  generalize (lg_sl ([.ref li, .int x]) ++ List.replicate (2 - (lg_sl ([.ref li, .int x])).length) Slot.unset).toArray = ls at hl ⊢
  have hl : lv_has ls 2 [(0, .ref li), (1, .int x)] := hl
  refine lv_aload_n hx hb d_Li_isOut_0 rfl (lv_at hl 0 rfl) ?_
  refine lv_iload_n hx hb d_Li_isOut_1 rfl (lv_at hl 1 rfl) ?_
  refine vp_callSi (va_runV (As := [.int x]) (rest := []) ⟨hx, hb, hml, hown, hts⟩ (c_Li_has l dC dI li a0 a1 a2 a3 a4 a5 a6 a7 a8 ns x ) (cwV 1 hts (ga_V kw_411 kw_412 kw_413 kw_37 (ga_in kw_414)) rfl rfl rfl (by decide +kernel) ⟨Nat.le_of_ble_eq_true rfl, Nat.le_of_ble_eq_true rfl⟩) (wy_preV 0 (hP.sub (ws' := [(li, .inr (1, [.ref a0, .ref a1, .ref a2, .ref a3, .ref a4, .ref a5, .ref a6, .ref a7, .ref a8, .int (nI ns)]))]) [0] rfl) (hK.sub (tys' := []) [] rfl) hN (ci := 1) rfl rfl rfl) rfl rfl hl.1 rfl (lv_room (Nat.le_of_ble_eq_true rfl)) d_Li_isOut_2 ⟨Nat.le_of_ble_eq_true rfl, Nat.le_of_ble_eq_true rfl⟩).run (fun r_2 h_2 => ?_)
  subst h_2
  refine wy_ifeqB (tgt := 22) hx hb d_Li_isOut_5 (by decide) (fun c_5 => ?_) (fun c_5 => ?_)
  · refine lv_iconst (v := 0) hx hb d_Li_isOut_22 (by decide) ?_
    have z9 : li_out ns fc x = false := by simp only [li_out, c_5, Bool.false_and]
    have q9 : (0 : Int32) = bo_I (li_out ns fc x) := by rw [z9]; rfl
    exact W.zret (v := 0) hx hb hr rfl (fun t ht _ => ⟨_, rfl, q9, ht⟩) (fun _ h9 => by cases h9) d_Li_isOut_23
  · obtain ⟨k, hk, rfl⟩ := li_has_of (by omega) c_5
    refine lv_aload_n hx hb d_Li_isOut_8 rfl (lv_at hl 0 rfl) ?_
    refine va_get (D := (dC, dI)) (ci := 1) (v := .ref a8) (C := "PatternText$IssueList") (T := F_Li) (N := 10) hx hb hts iw_Li hown hK hP 0 rfl rfl 8 (by decide) (hts _ kw_130) (fun _ h9 => h9) rfl d_Li_isOut_9 ?_
    refine lv_iload_n hx hb d_Li_isOut_12 rfl (lv_at hl 1 rfl) ?_
    refine wy_iald hx hb hK hP 1 0 k rfl rfl (by omega) (by omega) d_Li_isOut_13 ?_
    refine lv_iconst (v := -1) hx hb d_Li_isOut_14 (by decide) ?_
    refine lv_icmp_ne (tgt := 22) hx hb d_Li_isOut_15 (by decide) (fun c_15 => ?_) (fun c_15 => ?_)
    · refine lv_iconst (v := 0) hx hb d_Li_isOut_22 (by decide) ?_
      have z9 : li_out ns fc (nI k) = false := by rw [li_out_nI (by omega) (by omega), decide_eq_true hk, Bool.true_and]; first | exact decide_eq_true c_15 | exact decide_eq_false c_15
      have q9 : (0 : Int32) = bo_I (li_out ns fc (nI k)) := by rw [z9]; rfl
      exact W.zret (v := 0) hx hb hr rfl (fun t ht _ => ⟨_, rfl, q9, ht⟩) (fun _ h9 => by cases h9) d_Li_isOut_23
    · refine lv_iconst (v := 1) hx hb d_Li_isOut_18 (by decide) ?_
      refine lv_goto (tgt := 23) hx hb d_Li_isOut_19 (by decide) ?_
      have z9 : li_out ns fc (nI k) = true := by rw [li_out_nI (by omega) (by omega), decide_eq_true hk, Bool.true_and]; first | exact decide_eq_true c_15 | exact decide_eq_false c_15
      have q9 : (1 : Int32) = bo_I (li_out ns fc (nI k)) := by rw [z9]; rfl
      exact W.zret (v := 1) hx hb hr rfl (fun t ht _ => ⟨_, rfl, q9, ht⟩) (fun _ h9 => by cases h9) d_Li_isOut_23

set_option maxHeartbeats 4000000 in
set_option maxRecDepth 100000 in
theorem c_Li_hasComeFrom (l : Launch) (dC : Nat → ClassId) (dI : Nat → Nat → Nat) (li : Nat) (a0 : Nat) (a1 : Nat) (a2 : Nat) (a3 : Nat) (a4 : Nat) (a5 : Nat) (a6 : Nat) (a7 : Nat) (a8 : Nat) (ns : Nat) (cI : ClassId) (fc : Nat → Int32) (lf : Nat) (hn : ns ≤ 100) (hl0 : lf ≤ ns) : Met l y_Li_hasComeFrom w_Li_hasComeFrom ({ frames := 2, cells := 0, slots := 0, locals := 42 }) (va_Pc [.ref li, .int (nI lf)] (wy_R (dC, dI) ga_cl [(li, .inr (1, [.ref a0, .ref a1, .ref a2, .ref a3, .ref a4, .ref a5, .ref a6, .ref a7, .ref a8, .int (nI ns)])), (a8, .inl (cI, 100, .inl fc))] [(cI, .int)])) (vp_Si (fun r => r = bo_I (li_come fc (ns - lf) lf))) 0 0 (fun _ => False) := by
  refine Met.ofW (cc := b_Li_hasComeFrom) (maxL := 3) (ret := (some .boolean)) (by decide) rfl ?_
  intro p e s m args below meth c s₁ B hml hv
  obtain ⟨rfl, hP, hK, hN⟩ := hv
  have hx := B.exec
  have hb := B.bytes
  have hr := B.returns
  have hts : ∀ w ∈ ga_tbl, w.before _ s = true := fun w h => atoms_spec (ws := w_Li_hasComeFrom) B.pre w (List.mem_cons_of_mem _ h)
  have hown : s.vm.findClass "PatternText$IssueList" = some m.cls := findClass_of_methodNamed B.named
  have hlocks := B.notSynchronized
  have hl := lv_entry ([.ref li, .int (nI lf)]) (n := 3) (Nat.le_of_ble_eq_true rfl)
  rw [lg_entry_eq]
  generalize (lg_sl ([.ref li, .int (nI lf)]) ++ List.replicate (3 - (lg_sl ([.ref li, .int (nI lf)])).length) Slot.unset).toArray = ls at hl ⊢
  have hl : lv_has ls 3 [(0, .ref li), (1, .int (nI lf))] := hl
  obtain ⟨Q0, hQ⟩ : ∃ Q0 : State → Prop, Q0 = MQ below (vp_Si (fun r => r = bo_I (li_come fc (ns - lf) lf))) ([.ref li, .int (nI lf)] : List Value).toArray s 0 0 (fun _ => False) := ⟨_, rfl⟩
  show W p l e ({ frames := 2, cells := 0, slots := 0, locals := 42 }) s m ([.ref li, .int (nI lf)] : List Value).toArray below meth c s.heap [] 0 0 (MQ below (vp_Si (fun r => r = bo_I (li_come fc (ns - lf) lf))) ([.ref li, .int (nI lf)] : List Value).toArray s 0 0 (fun _ => False)) (F0 m 0 ls [])
  rw [← hQ]
  refine lv_iconst (v := 0) hx hb d_Li_hasComeFrom_0 (by decide) ?_
  refine lv_iload_n hx hb d_Li_hasComeFrom_1 rfl (lv_at hl 1 rfl) ?_
  refine va_mmax hx hb (hml.trans hl.1.symm) hown (hts _ kw_404) (hts _ kw_405) (hts _ kw_43) (hts _ kw_406) (Nat.le_of_ble_eq_true rfl) (Nat.le_of_ble_eq_true rfl) (Nat.le_of_ble_eq_true rfl) (Nat.le_of_ble_eq_true rfl) d_Li_hasComeFrom_2 ?_
  refine wy_cvi (y := nI lf) (li_max lf (by omega)) ?_
  refine lv_istore_n (lv' := [(2, .int (nI lf)), (0, .ref li), (1, .int (nI lf))]) hx hb d_Li_hasComeFrom_5 rfl hl (by decide) rfl (fun ls hl => ?_)
  have loop_6 : ∀ (fu : Nat) (k : Nat), (k ≤ ns) → (li_come fc (ns - k) k = li_come fc (ns - lf) lf) → ns - k < fu → ∀ (ls : Array Slot), lv_has ls 3 [(0, .ref li), (1, .int (nI lf)), (2, .int (nI k))] → W p l e ({ frames := 2, cells := 0, slots := 0, locals := 42 }) s m ([.ref li, .int (nI lf)] : List Value).toArray below meth c s.heap [] 0 0 Q0 (F0 m 6 ls []) := by
    intro fu
    induction fu with
    | zero => intro k h1 hR hmu; exact absurd hmu (Nat.not_lt_zero _)
    | succ fu ih_6 =>
      intro k h1 hR hmu ls hl
      refine lv_iload_n hx hb d_Li_hasComeFrom_6 rfl (lv_at hl 2 rfl) ?_
      refine lv_aload_n hx hb d_Li_hasComeFrom_7 rfl (lv_at hl 0 rfl) ?_
      refine va_get (D := (dC, dI)) (ci := 1) (v := .int (nI ns)) (C := "PatternText$IssueList") (T := F_Li) (N := 10) hx hb hts iw_Li hown hK hP 0 rfl rfl 9 (by decide) (hts _ kw_132) (fun _ h9 => h9) rfl d_Li_hasComeFrom_8 ?_
      refine wy_icmp_ge (tgt := 30) hx hb k ns (by omega) (by omega) d_Li_hasComeFrom_11 (by decide) (fun c_11 => ?_) (fun c_11 => ?_)
      · refine lv_iconst (v := 0) hx hb d_Li_hasComeFrom_30 (by decide) ?_
        rw [hQ]
        have z9 : li_come fc (ns - lf) lf = false := by rw [← hR]; exact li_come_0 c_11
        have q9 : (0 : Int32) = bo_I (li_come fc (ns - lf) lf) := by rw [z9]; rfl
        exact W.zret (v := 0) hx hb hr rfl (fun t ht _ => ⟨_, rfl, q9, ht⟩) (fun _ h9 => by cases h9) d_Li_hasComeFrom_31
      · refine lv_aload_n hx hb d_Li_hasComeFrom_14 rfl (lv_at hl 0 rfl) ?_
        refine lv_iload_n hx hb d_Li_hasComeFrom_15 rfl (lv_at hl 2 rfl) ?_
        refine vp_callSi (va_runV (As := [.int (nI k)]) (rest := []) ⟨hx, hb, hml, hown, hts⟩ (c_Li_isOut l dC dI li a0 a1 a2 a3 a4 a5 a6 a7 a8 ns cI fc (nI k) (by omega)) (cwV 1 hts (ga_V kw_407 kw_408 kw_409 kw_37 (ga_in kw_410)) rfl rfl rfl (by decide +kernel) ⟨Nat.le_of_ble_eq_true rfl, Nat.le_of_ble_eq_true rfl⟩) (wy_preV 0 (hP.sub (ws' := [(li, .inr (1, [.ref a0, .ref a1, .ref a2, .ref a3, .ref a4, .ref a5, .ref a6, .ref a7, .ref a8, .int (nI ns)])), (a8, .inl (cI, 100, .inl fc))]) [0, 1] rfl) (hK.sub (tys' := [(cI, .int)]) [0] rfl) hN (ci := 1) rfl rfl rfl) rfl rfl hl.1 rfl (lv_room (Nat.le_of_ble_eq_true rfl)) d_Li_hasComeFrom_16 ⟨Nat.le_of_ble_eq_true rfl, Nat.le_of_ble_eq_true rfl⟩).run (fun r_16 h_16 => ?_)
        subst h_16
        refine wy_cvi (y := bo_I (decide (fc k = (-1)))) (congrArg bo_I (by rw [li_out_nI (by omega) (by omega), decide_eq_true c_11, Bool.true_and])) ?_
        refine wy_ifneB (tgt := 24) hx hb d_Li_hasComeFrom_19 (by decide) (fun c_19 => ?_) (fun c_19 => ?_)
        · refine wy_iinc (x := k) (lv' := [(2, .int (nI (k + 1))), (0, .ref li), (1, .int (nI lf))]) hx hb d_Li_hasComeFrom_24 hl (k := 2) rfl (by decide) rfl (fun ls hl => ?_)
          refine lv_goto (tgt := 6) hx hb d_Li_hasComeFrom_27 (by decide) ?_
          exact ih_6 (k + 1) (by omega) (by rw [← hR, li_come_go c_11, c_19]; rfl) (by omega) ls (lv_sub hl [1, 2, 0] rfl)
        · refine lv_iconst (v := 1) hx hb d_Li_hasComeFrom_22 (by decide) ?_
          rw [hQ]
          have z9 : li_come fc (ns - lf) lf = true := by rw [← hR]; rw [li_come_go c_11, c_19]; rfl
          have q9 : (1 : Int32) = bo_I (li_come fc (ns - lf) lf) := by rw [z9]; rfl
          exact W.zret (v := 1) hx hb hr rfl (fun t ht _ => ⟨_, rfl, q9, ht⟩) (fun _ h9 => by cases h9) d_Li_hasComeFrom_23
  exact loop_6 _ lf (by omega) (rfl) (Nat.lt_succ_self _) ls (lv_sub hl [1, 2, 0] rfl)

set_option maxHeartbeats 4000000 in
set_option maxRecDepth 100000 in
theorem c_Li_countBefore (l : Launch) (dC : Nat → ClassId) (dI : Nat → Nat → Nat) (li : Nat) (a0 : Nat) (a1 : Nat) (a2 : Nat) (a3 : Nat) (a4 : Nat) (a5 : Nat) (a6 : Nat) (a7 : Nat) (a8 : Nat) (ns : Nat) (cI : ClassId) (fs : Nat → Int32) (x : Int32) (hn : ns ≤ 100) : Met l y_Li_countBefore w_Li_countBefore ({ frames := 0, cells := 0, slots := 0, locals := 0 }) (va_Pc [.ref li, .int x] (wy_R (dC, dI) ga_cl [(li, .inr (1, [.ref a0, .ref a1, .ref a2, .ref a3, .ref a4, .ref a5, .ref a6, .ref a7, .ref a8, .int (nI ns)])), (a0, .inl (cI, 100, .inl fs))] [(cI, .int)])) (vp_Si (fun r => r = nI (li_bef fs x ns 0))) 0 0 (fun _ => False) := by
  refine Met.ofW (cc := b_Li_countBefore) (maxL := 3) (ret := (some .int)) (by decide) rfl ?_
  intro p e s m args below meth c s₁ B hml hv
  obtain ⟨rfl, hP, hK, hN⟩ := hv
  have hx := B.exec
  have hb := B.bytes
  have hr := B.returns
  have hts : ∀ w ∈ ga_tbl, w.before _ s = true := fun w h => atoms_spec (ws := w_Li_countBefore) B.pre w (List.mem_cons_of_mem _ h)
  have hown : s.vm.findClass "PatternText$IssueList" = some m.cls := findClass_of_methodNamed B.named
  have hlocks := B.notSynchronized
  have hl := lv_entry ([.ref li, .int x]) (n := 3) (Nat.le_of_ble_eq_true rfl)
  rw [lg_entry_eq]
  generalize (lg_sl ([.ref li, .int x]) ++ List.replicate (3 - (lg_sl ([.ref li, .int x])).length) Slot.unset).toArray = ls at hl ⊢
  have hl : lv_has ls 3 [(0, .ref li), (1, .int x)] := hl
  obtain ⟨Q0, hQ⟩ : ∃ Q0 : State → Prop, Q0 = MQ below (vp_Si (fun r => r = nI (li_bef fs x ns 0))) ([.ref li, .int x] : List Value).toArray s 0 0 (fun _ => False) := ⟨_, rfl⟩
  show W p l e ({ frames := 0, cells := 0, slots := 0, locals := 0 }) s m ([.ref li, .int x] : List Value).toArray below meth c s.heap [] 0 0 (MQ below (vp_Si (fun r => r = nI (li_bef fs x ns 0))) ([.ref li, .int x] : List Value).toArray s 0 0 (fun _ => False)) (F0 m 0 ls [])
  rw [← hQ]
  refine lv_iconst (v := 0) hx hb d_Li_countBefore_0 (by decide) ?_
  refine lv_istore_n (lv' := [(2, .int 0), (0, .ref li), (1, .int x)]) hx hb d_Li_countBefore_1 rfl hl (by decide) rfl (fun ls hl => ?_)
  have loop_2 : ∀ (fu : Nat) (k : Nat), (k ≤ ns) → (li_bef fs x (ns - k) k = li_bef fs x ns 0) → ns - k < fu → ∀ (ls : Array Slot), lv_has ls 3 [(0, .ref li), (1, .int x), (2, .int (nI k))] → W p l e ({ frames := 0, cells := 0, slots := 0, locals := 0 }) s m ([.ref li, .int x] : List Value).toArray below meth c s.heap [] 0 0 Q0 (F0 m 2 ls []) := by
    intro fu
    induction fu with
    | zero => intro k h1 hR hmu; exact absurd hmu (Nat.not_lt_zero _)
    | succ fu ih_2 =>
      intro k h1 hR hmu ls hl
      refine lv_iload_n hx hb d_Li_countBefore_2 rfl (lv_at hl 2 rfl) ?_
      refine lv_aload_n hx hb d_Li_countBefore_3 rfl (lv_at hl 0 rfl) ?_
      refine va_get (D := (dC, dI)) (ci := 1) (v := .int (nI ns)) (C := "PatternText$IssueList") (T := F_Li) (N := 10) hx hb hts iw_Li hown hK hP 0 rfl rfl 9 (by decide) (hts _ kw_132) (fun _ h9 => h9) rfl d_Li_countBefore_4 ?_
      refine wy_icmp_ge (tgt := 26) hx hb k ns (by omega) (by omega) d_Li_countBefore_7 (by decide) (fun c_7 => ?_) (fun c_7 => ?_)
      · refine lv_iload_n hx hb d_Li_countBefore_26 rfl (lv_at hl 2 rfl) ?_
        rw [hQ]
        have z9 : li_bef fs x ns 0 = k := by rw [← hR]; first | exact li_bef_0 c_7 | rw [li_bef_go c_7, if_pos c_17]
        have q9 : (nI k : Int32) = nI (li_bef fs x ns 0) := by rw [z9]
        exact W.iret (v := nI k) hx hb hr (fun t ht _ => ⟨_, rfl, q9, ht⟩) (fun _ h9 => by cases h9) d_Li_countBefore_27
      · refine lv_aload_n hx hb d_Li_countBefore_10 rfl (lv_at hl 0 rfl) ?_
        refine va_get (D := (dC, dI)) (ci := 1) (v := .ref a0) (C := "PatternText$IssueList") (T := F_Li) (N := 10) hx hb hts iw_Li hown hK hP 0 rfl rfl 0 (by decide) (hts _ kw_116) (fun _ h9 => h9) rfl d_Li_countBefore_11 ?_
        refine lv_iload_n hx hb d_Li_countBefore_14 rfl (lv_at hl 2 rfl) ?_
        refine wy_iald hx hb hK hP 1 0 k rfl rfl (by omega) (by omega) d_Li_countBefore_15 ?_
        refine lv_iload_n hx hb d_Li_countBefore_16 rfl (lv_at hl 1 rfl) ?_
        refine lv_icmp_ge (tgt := 26) hx hb d_Li_countBefore_17 (by decide) (fun c_17 => ?_) (fun c_17 => ?_)
        · refine lv_iload_n hx hb d_Li_countBefore_26 rfl (lv_at hl 2 rfl) ?_
          rw [hQ]
          have z9 : li_bef fs x ns 0 = k := by rw [← hR]; first | exact li_bef_0 c_7 | rw [li_bef_go c_7, if_pos c_17]
          have q9 : (nI k : Int32) = nI (li_bef fs x ns 0) := by rw [z9]
          exact W.iret (v := nI k) hx hb hr (fun t ht _ => ⟨_, rfl, q9, ht⟩) (fun _ h9 => by cases h9) d_Li_countBefore_27
        · refine wy_iinc (x := k) (lv' := [(2, .int (nI (k + 1))), (0, .ref li), (1, .int x)]) hx hb d_Li_countBefore_20 hl (k := 2) rfl (by decide) rfl (fun ls hl => ?_)
          refine lv_goto (tgt := 2) hx hb d_Li_countBefore_23 (by decide) ?_
          exact ih_2 (k + 1) (by omega) (by rw [← hR, li_bef_go c_7, if_neg c_17]) (by omega) ls (lv_sub hl [1, 2, 0] rfl)
  exact loop_2 _ 0 (by omega) (rfl) (Nat.lt_succ_self _) ls (lv_sub hl [1, 2, 0] rfl)

set_option maxHeartbeats 4000000 in
set_option maxRecDepth 100000 in
theorem c_Li_cutTo (l : Launch) (dC : Nat → ClassId) (dI : Nat → Nat → Nat) (sz : Nat) (li : Nat) (a0 : Nat) (a1 : Nat) (a2 : Nat) (a3 : Nat) (a4 : Nat) (a5 : Nat) (a6 : Nat) (a7 : Nat) (a8 : Nat) (ns : Nat) (lf : Nat) : Met l y_Li_cutTo w_Li_cutTo ({ frames := 0, cells := 0, slots := 0, locals := 0 }) (va_Pc [.ref li, .int (nI lf)] (wy_M (dC, dI) ga_cl [(li, .inr (1, [.ref a0, .ref a1, .ref a2, .ref a3, .ref a4, .ref a5, .ref a6, .ref a7, .ref a8, .int (nI ns)]))] [] sz)) (va_Qv (fun (_ : Unit) => True) (fun _ => wy_N (dC, dI) ga_cl [] (va_A [(li, .inr (1, [.ref a0, .ref a1, .ref a2, .ref a3, .ref a4, .ref a5, .ref a6, .ref a7, .ref a8, .int (nI ns)]))] sz) [(li, .inr (1, [.ref a0, .ref a1, .ref a2, .ref a3, .ref a4, .ref a5, .ref a6, .ref a7, .ref a8, .int (nI lf)]))]) (va_A [(li, .inr (1, [.ref a0, .ref a1, .ref a2, .ref a3, .ref a4, .ref a5, .ref a6, .ref a7, .ref a8, .int (nI ns)]))] sz)) 0 0 (va_A [(li, .inr (1, [.ref a0, .ref a1, .ref a2, .ref a3, .ref a4, .ref a5, .ref a6, .ref a7, .ref a8, .int (nI ns)]))] sz) := by
  refine Met.ofW (cc := b_Li_cutTo) (maxL := 2) (ret := none) (by decide) rfl ?_
  intro p e s m args below meth c s₁ B hml hv
  obtain ⟨rfl, hsz, hP, hK, hN, hD0⟩ := hv
  have hx := B.exec
  have hb := B.bytes
  have hr := B.returns
  have hts : ∀ w ∈ ga_tbl, w.before _ s = true := fun w h => atoms_spec (ws := w_Li_cutTo) B.pre w (List.mem_cons_of_mem _ h)
  have hown : s.vm.findClass "PatternText$IssueList" = some m.cls := findClass_of_methodNamed B.named
  have hlocks := B.notSynchronized
  subst hsz
  have hD := hD0.self (sz := s.heap.size)
  generalize hAe : va_A [(li, .inr (1, [.ref a0, .ref a1, .ref a2, .ref a3, .ref a4, .ref a5, .ref a6, .ref a7, .ref a8, .int (nI ns)]))] s.heap.size = A at hD ⊢
  have hA : ∀ q : Nat, s.heap.size ≤ q → A q := fun q h => by rw [← hAe]; exact Or.inr h
  have hS : va_S A s.heap s.heap [] := va_S.rf
  have hl := lv_entry ([.ref li, .int (nI lf)]) (n := 2) (Nat.le_of_ble_eq_true rfl)
  rw [lg_entry_eq]
  generalize (lg_sl ([.ref li, .int (nI lf)]) ++ List.replicate (2 - (lg_sl ([.ref li, .int (nI lf)])).length) Slot.unset).toArray = ls at hl ⊢
  have hl : lv_has ls 2 [(0, .ref li), (1, .int (nI lf))] := hl
  obtain ⟨Q0, hQ⟩ : ∃ Q0 : State → Prop, Q0 = MQ below (va_Qv (fun (_ : Unit) => True) (fun _ => wy_N (dC, dI) ga_cl [] A [(li, .inr (1, [.ref a0, .ref a1, .ref a2, .ref a3, .ref a4, .ref a5, .ref a6, .ref a7, .ref a8, .int (nI lf)]))]) A) ([.ref li, .int (nI lf)] : List Value).toArray s 0 0 A := ⟨_, rfl⟩
  show W p l e ({ frames := 0, cells := 0, slots := 0, locals := 0 }) s m ([.ref li, .int (nI lf)] : List Value).toArray below meth c s.heap [] 0 0 (MQ below (va_Qv (fun (_ : Unit) => True) (fun _ => wy_N (dC, dI) ga_cl [] A [(li, .inr (1, [.ref a0, .ref a1, .ref a2, .ref a3, .ref a4, .ref a5, .ref a6, .ref a7, .ref a8, .int (nI lf)]))]) A) ([.ref li, .int (nI lf)] : List Value).toArray s 0 0 A) (F0 m 0 ls [])
  rw [← hQ]
  refine lv_aload_n hx hb d_Li_cutTo_0 rfl (lv_at hl 0 rfl) ?_
  refine lv_iload_n hx hb d_Li_cutTo_1 rfl (lv_at hl 1 rfl) ?_
  refine va_put (D := (dC, dI)) (ci := 1) (v := .int (nI lf)) (ty := .int) (C := "PatternText$IssueList") (T := F_Li) (N := 10) hx hb hts iw_Li t_Li t_Li_ok n_Li hown hK hP hD hS 0 rfl rfl 9 (by decide) (hts _ kw_132) (fun _ h9 => h9) rfl (by decide +kernel) rfl rfl (Nat.le_of_ble_eq_true rfl) d_Li_cutTo_2 (fun H locs hP hD hS => ?_)
  have hP : va_P (dC, dI) ga_cl [(li, .inr (1, [.ref a0, .ref a1, .ref a2, .ref a3, .ref a4, .ref a5, .ref a6, .ref a7, .ref a8, .int (nI lf)]))] H := hP
  have hD : va_D A [(li, .inr (1, [.ref a0, .ref a1, .ref a2, .ref a3, .ref a4, .ref a5, .ref a6, .ref a7, .ref a8, .int (nI lf)]))] := hD
  rw [hQ]
  have e9 : ([(li, .inr (1, [.ref a0, .ref a1, .ref a2, .ref a3, .ref a4, .ref a5, .ref a6, .ref a7, .ref a8, .int (nI lf)]))] : va_W) = [(li, .inr (1, [.ref a0, .ref a1, .ref a2, .ref a3, .ref a4, .ref a5, .ref a6, .ref a7, .ref a8, .int (nI lf)]))] := by rfl
  exact W.vret hx hb hr (fun t ht hW => ⟨⟨(), rfl, trivial, by rw [ht, e9]; exact hP, va_K.moved hW.alike hK, by rw [e9]; exact hD⟩, hS.F ht⟩) hS.2.2 d_Li_cutTo_5

set_option maxHeartbeats 4000000 in
set_option maxRecDepth 100000 in
theorem c_Li_isOverdue (l : Launch) (dC : Nat → ClassId) (dI : Nat → Nat → Nat) (li : Nat) (a0 : Nat) (a1 : Nat) (a2 : Nat) (a3 : Nat) (a4 : Nat) (a5 : Nat) (a6 : Nat) (a7 : Nat) (a8 : Nat) (ns : Nat) (cI : ClassId) (fc : Nat → Int32) (fe : Nat → Int32) (k : Nat) (dy : Int32) (hn : ns ≤ 100) (hk : k ≤ 100) : Met l y_Li_isOverdue w_Li_isOverdue ({ frames := 2, cells := 0, slots := 0, locals := 42 }) (va_Pc [.ref li, .int (nI k), .int dy] (wy_R (dC, dI) ga_cl [(li, .inr (1, [.ref a0, .ref a1, .ref a2, .ref a3, .ref a4, .ref a5, .ref a6, .ref a7, .ref a8, .int (nI ns)])), (a1, .inl (cI, 100, .inl fe)), (a8, .inl (cI, 100, .inl fc))] [(cI, .int)])) (vp_Si (fun r => r = bo_I (li_due ns fc fe dy k))) 0 0 (fun _ => False) := by
  refine Met.ofW (cc := b_Li_isOverdue) (maxL := 3) (ret := (some .boolean)) (by decide) rfl ?_
  intro p e s m args below meth c s₁ B hml hv
  obtain ⟨rfl, hP, hK, hN⟩ := hv
  have hx := B.exec
  have hb := B.bytes
  have hr := B.returns
  have hts : ∀ w ∈ ga_tbl, w.before _ s = true := fun w h => atoms_spec (ws := w_Li_isOverdue) B.pre w (List.mem_cons_of_mem _ h)
  have hown : s.vm.findClass "PatternText$IssueList" = some m.cls := findClass_of_methodNamed B.named
  have hlocks := B.notSynchronized
  have hl := lv_entry ([.ref li, .int (nI k), .int dy]) (n := 3) (Nat.le_of_ble_eq_true rfl)
  rw [lg_entry_eq]
  generalize (lg_sl ([.ref li, .int (nI k), .int dy]) ++ List.replicate (3 - (lg_sl ([.ref li, .int (nI k), .int dy])).length) Slot.unset).toArray = ls at hl ⊢
  have hl : lv_has ls 3 [(0, .ref li), (1, .int (nI k)), (2, .int dy)] := hl
  refine lv_aload_n hx hb d_Li_isOverdue_0 rfl (lv_at hl 0 rfl) ?_
  refine lv_iload_n hx hb d_Li_isOverdue_1 rfl (lv_at hl 1 rfl) ?_
  refine vp_callSi (va_runV (As := [.int (nI k)]) (rest := []) ⟨hx, hb, hml, hown, hts⟩ (c_Li_isOut l dC dI li a0 a1 a2 a3 a4 a5 a6 a7 a8 ns cI fc (nI k) (by omega)) (cwV 1 hts (ga_V kw_407 kw_408 kw_409 kw_37 (ga_in kw_410)) rfl rfl rfl (by decide +kernel) ⟨Nat.le_of_ble_eq_true rfl, Nat.le_of_ble_eq_true rfl⟩) (wy_preV 0 (hP.sub (ws' := [(li, .inr (1, [.ref a0, .ref a1, .ref a2, .ref a3, .ref a4, .ref a5, .ref a6, .ref a7, .ref a8, .int (nI ns)])), (a8, .inl (cI, 100, .inl fc))]) [0, 2] rfl) (hK.sub (tys' := [(cI, .int)]) [0] rfl) hN (ci := 1) rfl rfl rfl) rfl rfl hl.1 rfl (lv_room (Nat.le_of_ble_eq_true rfl)) d_Li_isOverdue_2 ⟨Nat.le_of_ble_eq_true rfl, Nat.le_of_ble_eq_true rfl⟩).run (fun r_2 h_2 => ?_)
  subst h_2
  refine wy_cvi (y := bo_I (decide (k < ns) && decide (fc k = (-1)))) (congrArg bo_I (li_out_nI (by omega) (by omega))) ?_
  refine wy_ifeqB (tgt := 22) hx hb d_Li_isOverdue_5 (by decide) (fun c_5 => ?_) (fun c_5 => ?_)
  · refine lv_iconst (v := 0) hx hb d_Li_isOverdue_22 (by decide) ?_
    have z9 : li_due ns fc fe dy k = false := by unfold li_due; rw [c_5]; first | rfl | (rw [Bool.true_and]; exact decide_eq_false (Int32.not_lt.mpr c_15))
    have q9 : (0 : Int32) = bo_I (li_due ns fc fe dy k) := by rw [z9]; rfl
    exact W.zret (v := 0) hx hb hr rfl (fun t ht _ => ⟨_, rfl, q9, ht⟩) (fun _ h9 => by cases h9) d_Li_isOverdue_23
  · have hkn : k < ns := by simp only [Bool.and_eq_true, decide_eq_true_eq] at c_5; exact c_5.1
    refine lv_aload_n hx hb d_Li_isOverdue_8 rfl (lv_at hl 0 rfl) ?_
    refine va_get (D := (dC, dI)) (ci := 1) (v := .ref a1) (C := "PatternText$IssueList") (T := F_Li) (N := 10) hx hb hts iw_Li hown hK hP 0 rfl rfl 1 (by decide) (hts _ kw_117) (fun _ h9 => h9) rfl d_Li_isOverdue_9 ?_
    refine lv_iload_n hx hb d_Li_isOverdue_12 rfl (lv_at hl 1 rfl) ?_
    refine wy_iald hx hb hK hP 1 0 k rfl rfl (by omega) (by omega) d_Li_isOverdue_13 ?_
    refine lv_iload_n hx hb d_Li_isOverdue_14 rfl (lv_at hl 2 rfl) ?_
    refine lv_icmp_ge (tgt := 22) hx hb d_Li_isOverdue_15 (by decide) (fun c_15 => ?_) (fun c_15 => ?_)
    · refine lv_iconst (v := 0) hx hb d_Li_isOverdue_22 (by decide) ?_
      have z9 : li_due ns fc fe dy k = false := by unfold li_due; rw [c_5]; first | rfl | (rw [Bool.true_and]; exact decide_eq_false (Int32.not_lt.mpr c_15))
      have q9 : (0 : Int32) = bo_I (li_due ns fc fe dy k) := by rw [z9]; rfl
      exact W.zret (v := 0) hx hb hr rfl (fun t ht _ => ⟨_, rfl, q9, ht⟩) (fun _ h9 => by cases h9) d_Li_isOverdue_23
    · refine lv_iconst (v := 1) hx hb d_Li_isOverdue_18 (by decide) ?_
      refine lv_goto (tgt := 23) hx hb d_Li_isOverdue_19 (by decide) ?_
      have z9 : li_due ns fc fe dy k = true := by unfold li_due; rw [c_5]; rw [Bool.true_and]; exact decide_eq_true (Int32.not_le.mp c_15)
      have q9 : (1 : Int32) = bo_I (li_due ns fc fe dy k) := by rw [z9]; rfl
      exact W.zret (v := 1) hx hb hr rfl (fun t ht _ => ⟨_, rfl, q9, ht⟩) (fun _ h9 => by cases h9) d_Li_isOverdue_23

set_option maxHeartbeats 4000000 in
set_option maxRecDepth 100000 in
theorem c_Li_countOverdue (l : Launch) (dC : Nat → ClassId) (dI : Nat → Nat → Nat) (li : Nat) (a0 : Nat) (a1 : Nat) (a2 : Nat) (a3 : Nat) (a4 : Nat) (a5 : Nat) (a6 : Nat) (a7 : Nat) (a8 : Nat) (ns : Nat) (cI : ClassId) (fc : Nat → Int32) (fe : Nat → Int32) (dy : Int32) (hn : ns ≤ 100) : Met l y_Li_countOverdue w_Li_countOverdue ({ frames := 3, cells := 0, slots := 0, locals := 64 }) (va_Pc [.ref li, .int dy] (wy_R (dC, dI) ga_cl [(li, .inr (1, [.ref a0, .ref a1, .ref a2, .ref a3, .ref a4, .ref a5, .ref a6, .ref a7, .ref a8, .int (nI ns)])), (a1, .inl (cI, 100, .inl fe)), (a8, .inl (cI, 100, .inl fc))] [(cI, .int)])) (vp_Si (fun r => r = nI (li_cnt ns fc fe dy ns 0 0))) 0 0 (fun _ => False) := by
  refine Met.ofW (cc := b_Li_countOverdue) (maxL := 4) (ret := (some .int)) (by decide) rfl ?_
  intro p e s m args below meth c s₁ B hml hv
  obtain ⟨rfl, hP, hK, hN⟩ := hv
  have hx := B.exec
  have hb := B.bytes
  have hr := B.returns
  have hts : ∀ w ∈ ga_tbl, w.before _ s = true := fun w h => atoms_spec (ws := w_Li_countOverdue) B.pre w (List.mem_cons_of_mem _ h)
  have hown : s.vm.findClass "PatternText$IssueList" = some m.cls := findClass_of_methodNamed B.named
  have hlocks := B.notSynchronized
  have hl := lv_entry ([.ref li, .int dy]) (n := 4) (Nat.le_of_ble_eq_true rfl)
  rw [lg_entry_eq]
  generalize (lg_sl ([.ref li, .int dy]) ++ List.replicate (4 - (lg_sl ([.ref li, .int dy])).length) Slot.unset).toArray = ls at hl ⊢
  have hl : lv_has ls 4 [(0, .ref li), (1, .int dy)] := hl
  obtain ⟨Q0, hQ⟩ : ∃ Q0 : State → Prop, Q0 = MQ below (vp_Si (fun r => r = nI (li_cnt ns fc fe dy ns 0 0))) ([.ref li, .int dy] : List Value).toArray s 0 0 (fun _ => False) := ⟨_, rfl⟩
  show W p l e ({ frames := 3, cells := 0, slots := 0, locals := 64 }) s m ([.ref li, .int dy] : List Value).toArray below meth c s.heap [] 0 0 (MQ below (vp_Si (fun r => r = nI (li_cnt ns fc fe dy ns 0 0))) ([.ref li, .int dy] : List Value).toArray s 0 0 (fun _ => False)) (F0 m 0 ls [])
  rw [← hQ]
  refine lv_iconst (v := 0) hx hb d_Li_countOverdue_0 (by decide) ?_
  refine lv_istore_n (lv' := [(2, .int 0), (0, .ref li), (1, .int dy)]) hx hb d_Li_countOverdue_1 rfl hl (by decide) rfl (fun ls hl => ?_)
  refine lv_iconst (v := 0) hx hb d_Li_countOverdue_2 (by decide) ?_
  refine lv_istore_n (lv' := [(3, .int 0), (2, .int 0), (0, .ref li), (1, .int dy)]) hx hb d_Li_countOverdue_3 rfl hl (by decide) rfl (fun ls hl => ?_)
  have loop_4 : ∀ (fu : Nat) (k : Nat) (c0 : Nat), (k ≤ ns) → (c0 ≤ k) → (li_cnt ns fc fe dy (ns - k) k c0 = li_cnt ns fc fe dy ns 0 0) → ns - k < fu → ∀ (ls : Array Slot), lv_has ls 4 [(0, .ref li), (1, .int dy), (2, .int (nI c0)), (3, .int (nI k))] → W p l e ({ frames := 3, cells := 0, slots := 0, locals := 64 }) s m ([.ref li, .int dy] : List Value).toArray below meth c s.heap [] 0 0 Q0 (F0 m 4 ls []) := by
    intro fu
    induction fu with
    | zero => intro k c0 h1 h2 hR hmu; exact absurd hmu (Nat.not_lt_zero _)
    | succ fu ih_4 =>
      intro k c0 h1 h2 hR hmu ls hl
      refine lv_iload_n hx hb d_Li_countOverdue_4 rfl (lv_at hl 3 rfl) ?_
      refine lv_aload_n hx hb d_Li_countOverdue_5 rfl (lv_at hl 0 rfl) ?_
      refine va_get (D := (dC, dI)) (ci := 1) (v := .int (nI ns)) (C := "PatternText$IssueList") (T := F_Li) (N := 10) hx hb hts iw_Li hown hK hP 0 rfl rfl 9 (by decide) (hts _ kw_132) (fun _ h9 => h9) rfl d_Li_countOverdue_6 ?_
      refine wy_icmp_ge (tgt := 30) hx hb k ns (by omega) (by omega) d_Li_countOverdue_9 (by decide) (fun c_9 => ?_) (fun c_9 => ?_)
      · refine lv_iload_n hx hb d_Li_countOverdue_30 rfl (lv_at hl 2 rfl) ?_
        rw [hQ]
        have z9 : li_cnt ns fc fe dy ns 0 0 = c0 := by rw [← hR]; exact li_cnt_0 c_9
        have q9 : (nI c0 : Int32) = nI (li_cnt ns fc fe dy ns 0 0) := by rw [z9]
        exact W.iret (v := nI c0) hx hb hr (fun t ht _ => ⟨_, rfl, q9, ht⟩) (fun _ h9 => by cases h9) d_Li_countOverdue_31
      · refine lv_aload_n hx hb d_Li_countOverdue_12 rfl (lv_at hl 0 rfl) ?_
        refine lv_iload_n hx hb d_Li_countOverdue_13 rfl (lv_at hl 3 rfl) ?_
        refine lv_iload_n hx hb d_Li_countOverdue_14 rfl (lv_at hl 1 rfl) ?_
        refine vp_callSi (va_runV (As := [.int (nI k), .int dy]) (rest := []) ⟨hx, hb, hml, hown, hts⟩ (c_Li_isOverdue l dC dI li a0 a1 a2 a3 a4 a5 a6 a7 a8 ns cI fc fe k dy (by omega) (by omega)) (cwV 2 hts (ga_V kw_456 kw_458 kw_13 kw_37 (ga_in kw_459)) rfl rfl rfl (by decide +kernel) ⟨Nat.le_of_ble_eq_true rfl, Nat.le_of_ble_eq_true rfl⟩) (wy_preV 0 (hP.sub (ws' := [(li, .inr (1, [.ref a0, .ref a1, .ref a2, .ref a3, .ref a4, .ref a5, .ref a6, .ref a7, .ref a8, .int (nI ns)])), (a1, .inl (cI, 100, .inl fe)), (a8, .inl (cI, 100, .inl fc))]) [0, 1, 2] rfl) (hK.sub (tys' := [(cI, .int)]) [0] rfl) hN (ci := 1) rfl rfl rfl) rfl rfl hl.1 rfl (lv_room (Nat.le_of_ble_eq_true rfl)) d_Li_countOverdue_15 ⟨Nat.le_of_ble_eq_true rfl, Nat.le_of_ble_eq_true rfl⟩).run (fun r_15 h_15 => ?_)
        subst h_15
        refine wy_ifeqB (tgt := 24) hx hb d_Li_countOverdue_18 (by decide) (fun c_18 => ?_) (fun c_18 => ?_)
        · refine wy_iinc (x := k) (lv' := [(3, .int (nI (k + 1))), (0, .ref li), (1, .int dy), (2, .int (nI c0))]) hx hb d_Li_countOverdue_24 hl (k := 3) rfl (by decide) rfl (fun ls hl => ?_)
          refine lv_goto (tgt := 4) hx hb d_Li_countOverdue_27 (by decide) ?_
          exact ih_4 (k + 1) c0 (by omega) (by omega) (by rw [← hR, li_cnt_go c_9, c_18]; rfl) (by omega) ls (lv_sub hl [1, 2, 3, 0] rfl)
        · refine wy_iinc (x := c0) (lv' := [(2, .int (nI (c0 + 1))), (0, .ref li), (1, .int dy), (3, .int (nI k))]) hx hb d_Li_countOverdue_21 hl (k := 2) rfl (by decide) rfl (fun ls hl => ?_)
          refine wy_iinc (x := k) (lv' := [(3, .int (nI (k + 1))), (2, .int (nI (c0 + 1))), (0, .ref li), (1, .int dy)]) hx hb d_Li_countOverdue_24 hl (k := 3) rfl (by decide) rfl (fun ls hl => ?_)
          refine lv_goto (tgt := 4) hx hb d_Li_countOverdue_27 (by decide) ?_
          exact ih_4 (k + 1) (c0 + 1) (by omega) (by omega) (by rw [← hR, li_cnt_go c_9, c_18]; rfl) (by omega) ls (lv_sub hl [2, 3, 1, 0] rfl)
  exact loop_4 _ 0 0 (by omega) (by omega) (rfl) (Nat.lt_succ_self _) ls (lv_sub hl [2, 3, 1, 0] rfl)

set_option maxHeartbeats 4000000 in
set_option maxRecDepth 100000 in
theorem c_Li_isClaimedBefore (l : Launch) (dC : Nat → ClassId) (dI : Nat → Nat → Nat) (li : Nat) (a0 : Nat) (a1 : Nat) (a2 : Nat) (a3 : Nat) (a4 : Nat) (a5 : Nat) (a6 : Nat) (a7 : Nat) (a8 : Nat) (ns : Nat) (cI : ClassId) (fe : Nat → Int32) (i : Nat) (j : Nat) (hn : ns ≤ 100) (hi : i < ns) (hj : j < ns) : Met l y_Li_isClaimedBefore w_Li_isClaimedBefore ({ frames := 1, cells := 0, slots := 0, locals := 21 }) (va_Pc [.ref li, .int (nI i), .int (nI j)] (wy_R (dC, dI) ga_cl [(li, .inr (1, [.ref a0, .ref a1, .ref a2, .ref a3, .ref a4, .ref a5, .ref a6, .ref a7, .ref a8, .int (nI ns)])), (a1, .inl (cI, 100, .inl fe))] [(cI, .int)])) (vp_Si (fun r => r = bo_I (li_bfr fe i j))) 0 0 (fun _ => False) := by
  refine Met.ofW (cc := b_Li_isClaimedBefore) (maxL := 3) (ret := (some .boolean)) (by decide) rfl ?_
  intro p e s m args below meth c s₁ B hml hv
  obtain ⟨rfl, hP, hK, hN⟩ := hv
  have hx := B.exec
  have hb := B.bytes
  have hr := B.returns
  have hts : ∀ w ∈ ga_tbl, w.before _ s = true := fun w h => atoms_spec (ws := w_Li_isClaimedBefore) B.pre w (List.mem_cons_of_mem _ h)
  have hown : s.vm.findClass "PatternText$IssueList" = some m.cls := findClass_of_methodNamed B.named
  have hlocks := B.notSynchronized
  have hl := lv_entry ([.ref li, .int (nI i), .int (nI j)]) (n := 3) (Nat.le_of_ble_eq_true rfl)
  rw [lg_entry_eq]
  generalize (lg_sl ([.ref li, .int (nI i), .int (nI j)]) ++ List.replicate (3 - (lg_sl ([.ref li, .int (nI i), .int (nI j)])).length) Slot.unset).toArray = ls at hl ⊢
  have hl : lv_has ls 3 [(0, .ref li), (1, .int (nI i)), (2, .int (nI j))] := hl
  refine lv_aload_n hx hb d_Li_isClaimedBefore_0 rfl (lv_at hl 0 rfl) ?_
  refine lv_iload_n hx hb d_Li_isClaimedBefore_1 rfl (lv_at hl 1 rfl) ?_
  refine vp_callSi (va_runV (As := [.int (nI i)]) (rest := []) ⟨hx, hb, hml, hown, hts⟩ (c_Li_has l dC dI li a0 a1 a2 a3 a4 a5 a6 a7 a8 ns (nI i) ) (cwV 1 hts (ga_V kw_411 kw_412 kw_413 kw_37 (ga_in kw_414)) rfl rfl rfl (by decide +kernel) ⟨Nat.le_of_ble_eq_true rfl, Nat.le_of_ble_eq_true rfl⟩) (wy_preV 0 (hP.sub (ws' := [(li, .inr (1, [.ref a0, .ref a1, .ref a2, .ref a3, .ref a4, .ref a5, .ref a6, .ref a7, .ref a8, .int (nI ns)]))]) [0] rfl) (hK.sub (tys' := []) [] rfl) hN (ci := 1) rfl rfl rfl) rfl rfl hl.1 rfl (lv_room (Nat.le_of_ble_eq_true rfl)) d_Li_isClaimedBefore_2 ⟨Nat.le_of_ble_eq_true rfl, Nat.le_of_ble_eq_true rfl⟩).run (fun r_2 h_2 => ?_)
  subst h_2
  refine wy_cvi (y := bo_I true) (by rw [li_has_nI (by omega) (by omega), decide_eq_true hi]) ?_
  refine wy_ifeqB (tgt := 16) hx hb d_Li_isClaimedBefore_5 (by decide) (fun c_5 => ?_) (fun c_5 => ?_)
  · cases c_5
  · refine lv_aload_n hx hb d_Li_isClaimedBefore_8 rfl (lv_at hl 0 rfl) ?_
    refine lv_iload_n hx hb d_Li_isClaimedBefore_9 rfl (lv_at hl 2 rfl) ?_
    refine vp_callSi (va_runV (As := [.int (nI j)]) (rest := []) ⟨hx, hb, hml, hown, hts⟩ (c_Li_has l dC dI li a0 a1 a2 a3 a4 a5 a6 a7 a8 ns (nI j) ) (cwV 1 hts (ga_V kw_411 kw_412 kw_413 kw_37 (ga_in kw_414)) rfl rfl rfl (by decide +kernel) ⟨Nat.le_of_ble_eq_true rfl, Nat.le_of_ble_eq_true rfl⟩) (wy_preV 0 (hP.sub (ws' := [(li, .inr (1, [.ref a0, .ref a1, .ref a2, .ref a3, .ref a4, .ref a5, .ref a6, .ref a7, .ref a8, .int (nI ns)]))]) [0] rfl) (hK.sub (tys' := []) [] rfl) hN (ci := 1) rfl rfl rfl) rfl rfl hl.1 rfl (lv_room (Nat.le_of_ble_eq_true rfl)) d_Li_isClaimedBefore_10 ⟨Nat.le_of_ble_eq_true rfl, Nat.le_of_ble_eq_true rfl⟩).run (fun r_10 h_10 => ?_)
    subst h_10
    refine wy_cvi (y := bo_I true) (by rw [li_has_nI (by omega) (by omega), decide_eq_true hj]) ?_
    refine wy_ifneB (tgt := 18) hx hb d_Li_isClaimedBefore_13 (by decide) (fun c_13 => ?_) (fun c_13 => ?_)
    · refine lv_aload_n hx hb d_Li_isClaimedBefore_18 rfl (lv_at hl 0 rfl) ?_
      refine va_get (D := (dC, dI)) (ci := 1) (v := .ref a1) (C := "PatternText$IssueList") (T := F_Li) (N := 10) hx hb hts iw_Li hown hK hP 0 rfl rfl 1 (by decide) (hts _ kw_117) (fun _ h9 => h9) rfl d_Li_isClaimedBefore_19 ?_
      refine lv_iload_n hx hb d_Li_isClaimedBefore_22 rfl (lv_at hl 1 rfl) ?_
      refine wy_iald hx hb hK hP 1 0 i rfl rfl (by omega) (by omega) d_Li_isClaimedBefore_23 ?_
      refine lv_aload_n hx hb d_Li_isClaimedBefore_24 rfl (lv_at hl 0 rfl) ?_
      refine va_get (D := (dC, dI)) (ci := 1) (v := .ref a1) (C := "PatternText$IssueList") (T := F_Li) (N := 10) hx hb hts iw_Li hown hK hP 0 rfl rfl 1 (by decide) (hts _ kw_117) (fun _ h9 => h9) rfl d_Li_isClaimedBefore_25 ?_
      refine lv_iload_n hx hb d_Li_isClaimedBefore_28 rfl (lv_at hl 2 rfl) ?_
      refine wy_iald hx hb hK hP 1 0 j rfl rfl (by omega) (by omega) d_Li_isClaimedBefore_29 ?_
      refine lv_icmp_eq (tgt := 56) hx hb d_Li_isClaimedBefore_30 (by decide) (fun c_30 => ?_) (fun c_30 => ?_)
      · refine lv_iload_n hx hb d_Li_isClaimedBefore_56 rfl (lv_at hl 1 rfl) ?_
        refine lv_iload_n hx hb d_Li_isClaimedBefore_57 rfl (lv_at hl 2 rfl) ?_
        refine wy_icmp_ge (tgt := 65) hx hb i j (by omega) (by omega) d_Li_isClaimedBefore_58 (by decide) (fun c_58 => ?_) (fun c_58 => ?_)
        · refine lv_iconst (v := 0) hx hb d_Li_isClaimedBefore_65 (by decide) ?_
          have z9 : li_bfr fe i j = false := by unfold li_bfr; first | (rw [if_pos c_30]; first | exact decide_eq_true c_58 | exact decide_eq_false (by omega)) | (rw [if_neg c_30]; first | exact decide_eq_true (Int32.not_le.mp c_45) | exact decide_eq_false (Int32.not_lt.mpr c_45))
          have q9 : (0 : Int32) = bo_I (li_bfr fe i j) := by rw [z9]; rfl
          exact W.zret (v := 0) hx hb hr rfl (fun t ht _ => ⟨_, rfl, q9, ht⟩) (fun _ h9 => by cases h9) d_Li_isClaimedBefore_66
        · refine lv_iconst (v := 1) hx hb d_Li_isClaimedBefore_61 (by decide) ?_
          refine lv_goto (tgt := 66) hx hb d_Li_isClaimedBefore_62 (by decide) ?_
          have z9 : li_bfr fe i j = true := by unfold li_bfr; first | (rw [if_pos c_30]; first | exact decide_eq_true c_58 | exact decide_eq_false (by omega)) | (rw [if_neg c_30]; first | exact decide_eq_true (Int32.not_le.mp c_45) | exact decide_eq_false (Int32.not_lt.mpr c_45))
          have q9 : (1 : Int32) = bo_I (li_bfr fe i j) := by rw [z9]; rfl
          exact W.zret (v := 1) hx hb hr rfl (fun t ht _ => ⟨_, rfl, q9, ht⟩) (fun _ h9 => by cases h9) d_Li_isClaimedBefore_66
      · refine lv_aload_n hx hb d_Li_isClaimedBefore_33 rfl (lv_at hl 0 rfl) ?_
        refine va_get (D := (dC, dI)) (ci := 1) (v := .ref a1) (C := "PatternText$IssueList") (T := F_Li) (N := 10) hx hb hts iw_Li hown hK hP 0 rfl rfl 1 (by decide) (hts _ kw_117) (fun _ h9 => h9) rfl d_Li_isClaimedBefore_34 ?_
        refine lv_iload_n hx hb d_Li_isClaimedBefore_37 rfl (lv_at hl 1 rfl) ?_
        refine wy_iald hx hb hK hP 1 0 i rfl rfl (by omega) (by omega) d_Li_isClaimedBefore_38 ?_
        refine lv_aload_n hx hb d_Li_isClaimedBefore_39 rfl (lv_at hl 0 rfl) ?_
        refine va_get (D := (dC, dI)) (ci := 1) (v := .ref a1) (C := "PatternText$IssueList") (T := F_Li) (N := 10) hx hb hts iw_Li hown hK hP 0 rfl rfl 1 (by decide) (hts _ kw_117) (fun _ h9 => h9) rfl d_Li_isClaimedBefore_40 ?_
        refine lv_iload_n hx hb d_Li_isClaimedBefore_43 rfl (lv_at hl 2 rfl) ?_
        refine wy_iald hx hb hK hP 1 0 j rfl rfl (by omega) (by omega) d_Li_isClaimedBefore_44 ?_
        refine lv_icmp_ge (tgt := 52) hx hb d_Li_isClaimedBefore_45 (by decide) (fun c_45 => ?_) (fun c_45 => ?_)
        · refine lv_iconst (v := 0) hx hb d_Li_isClaimedBefore_52 (by decide) ?_
          refine lv_goto (tgt := 66) hx hb d_Li_isClaimedBefore_53 (by decide) ?_
          have z9 : li_bfr fe i j = false := by unfold li_bfr; first | (rw [if_pos c_30]; first | exact decide_eq_true c_58 | exact decide_eq_false (by omega)) | (rw [if_neg c_30]; first | exact decide_eq_true (Int32.not_le.mp c_45) | exact decide_eq_false (Int32.not_lt.mpr c_45))
          have q9 : (0 : Int32) = bo_I (li_bfr fe i j) := by rw [z9]; rfl
          exact W.zret (v := 0) hx hb hr rfl (fun t ht _ => ⟨_, rfl, q9, ht⟩) (fun _ h9 => by cases h9) d_Li_isClaimedBefore_66
        · refine lv_iconst (v := 1) hx hb d_Li_isClaimedBefore_48 (by decide) ?_
          refine lv_goto (tgt := 66) hx hb d_Li_isClaimedBefore_49 (by decide) ?_
          have z9 : li_bfr fe i j = true := by unfold li_bfr; first | (rw [if_pos c_30]; first | exact decide_eq_true c_58 | exact decide_eq_false (by omega)) | (rw [if_neg c_30]; first | exact decide_eq_true (Int32.not_le.mp c_45) | exact decide_eq_false (Int32.not_lt.mpr c_45))
          have q9 : (1 : Int32) = bo_I (li_bfr fe i j) := by rw [z9]; rfl
          exact W.zret (v := 1) hx hb hr rfl (fun t ht _ => ⟨_, rfl, q9, ht⟩) (fun _ h9 => by cases h9) d_Li_isClaimedBefore_66
    · cases c_13
