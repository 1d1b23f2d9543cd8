set_option maxHeartbeats 4000000 in
set_option maxRecDepth 100000 in
theorem c_Mo_has (l : Launch) (dC : Nat → ClassId) (dI : Nat → Nat → Nat) (mm : Nat) (u1 : Nat) (u5 : Nat) (u6 : Nat) (u7 : Nat) (u8 : Nat) (u9 : Nat) (u10 : Nat) (u11 : Nat) (u13 : Nat) (u15 : Nat) (u16 : Nat) (u17 : Nat) (u18 : Nat) (u19 : Nat) (u20 : Nat) (u22 : Nat) (th : Int32) (n : Nat) (pv : Int32) (wr : Int32) (cn : Nat) (hc : Nat) (ns : Nat) (pz : Nat) (cI : ClassId) (km : Nat → Int32) (pq : Nat) (x : Nat) (hp : pq < 11) (hx0 : x < 2 ^ 31) : Met l y_Mo_has w_Mo_has ({ frames := 0, cells := 0, slots := 0, locals := 0 }) (va_Pc [.ref mm, .int (nI pq), .int (nI x)] (wy_R (dC, dI) ga_cl [(mm, .inr (5, [.int th, .ref u1, .int (nI n), .int pv, .int wr, .ref u5, .ref u6, .ref u7, .ref u8, .ref u9, .ref u10, .ref u11, .int (nI cn), .ref u13, .int (nI hc), .ref u15, .ref u16, .ref u17, .ref u18, .ref u19, .ref u20, .int (nI ns), .ref u22, .int (nI pz)])), (u6, .inl (cI, 11, .inl km))] [(cI, .int)])) (vp_Si (fun r => r = bo_I (pt_on (km pq) x))) 0 0 (fun _ => False) := by
  refine Met.ofW (cc := b_Mo_has) (maxL := 3) (ret := (some .boolean)) (by decide) rfl ?_
  intro p e s m args below meth c s₁ B hml hv
  obtain ⟨rfl, hP, hK, hN⟩ := hv
  have hx := B.exec
  have hb := B.bytes
  have hr := B.returns
  have hts : ∀ w ∈ ga_tbl, w.before _ s = true := fun w h => atoms_spec (ws := w_Mo_has) B.pre w (List.mem_cons_of_mem _ h)
  have hown : s.vm.findClass "PatternTextModel" = some m.cls := findClass_of_methodNamed B.named
  have hlocks := B.notSynchronized
  have hl := lv_entry ([.ref mm, .int (nI pq), .int (nI x)]) (n := 3) (Nat.le_of_ble_eq_true rfl)
  rw [lg_entry_eq]
  generalize (lg_sl ([.ref mm, .int (nI pq), .int (nI x)]) ++ List.replicate (3 - (lg_sl ([.ref mm, .int (nI pq), .int (nI x)])).length) Slot.unset).toArray = ls at hl ⊢
  have hl : lv_has ls 3 [(0, .ref mm), (1, .int (nI pq)), (2, .int (nI x))] := hl
  refine lv_aload_n hx hb d_Mo_has_0 rfl (lv_at hl 0 rfl) ?_
  refine va_get (D := (dC, dI)) (ci := 5) (v := .ref u6) (C := "PatternTextModel") (T := F_Mo) (N := 24) hx hb hts iw_Mo hown hK hP 0 rfl rfl 6 (by decide) (hts _ kw_566) (fun _ h9 => h9) rfl d_Mo_has_1 ?_
  refine lv_iload_n hx hb d_Mo_has_4 rfl (lv_at hl 1 rfl) ?_
  refine wy_iald hx hb hK hP 1 0 pq rfl rfl (by omega) (by omega) d_Mo_has_5 ?_
  refine lv_iload_n hx hb d_Mo_has_6 rfl (lv_at hl 2 rfl) ?_
  refine lv_bipush (v := 30) hx hb d_Mo_has_7 (by decide) ?_
  refine wy_idiv hx hb x 30 (by omega) (by omega) (by omega) d_Mo_has_9 ?_
  refine lv_bipush (v := 12) hx hb d_Mo_has_10 (by decide) ?_
  refine wy_irem hx hb (x / 30) 12 (by omega) (by omega) (by omega) d_Mo_has_12 ?_
  refine lv_ishr hx hb d_Mo_has_13 ?_
  refine lv_iconst (v := 1) hx hb d_Mo_has_14 (by decide) ?_
  refine lv_iand hx hb d_Mo_has_15 ?_
  refine lv_if_ne (tgt := 23) hx hb d_Mo_has_16 (by decide) (fun c_16 => ?_) (fun c_16 => ?_)
  · refine lv_iconst (v := 0) hx hb d_Mo_has_23 (by decide) ?_
    have z9 : pt_on (km pq) x = false := by unfold pt_on; exact decide_eq_false (fun z => c_16 ((mo_bit _ _ (Nat.mod_lt _ (by omega))).mpr z))
    have q9 : (0 : Int32) = bo_I (pt_on (km pq) x) := by rw [z9]; rfl
    exact W.zret (v := 0) hx hb hr rfl (fun t ht _ => ⟨_, rfl, q9, ht⟩) (fun _ h9 => by cases h9) d_Mo_has_24
  · refine lv_iconst (v := 1) hx hb d_Mo_has_19 (by decide) ?_
    refine lv_goto (tgt := 24) hx hb d_Mo_has_20 (by decide) ?_
    have z9 : pt_on (km pq) x = true := by unfold pt_on; exact decide_eq_true ((mo_bit _ _ (Nat.mod_lt _ (by omega))).mp c_16)
    have q9 : (1 : Int32) = bo_I (pt_on (km pq) x) := by rw [z9]; rfl
    exact W.zret (v := 1) hx hb hr rfl (fun t ht _ => ⟨_, rfl, q9, ht⟩) (fun _ h9 => by cases h9) d_Mo_has_24

set_option maxHeartbeats 4000000 in
set_option maxRecDepth 100000 in
theorem c_Mo_word (l : Launch) (dC : Nat → ClassId) (dI : Nat → Nat → Nat) (mm : Nat) (u1 : Nat) (u5 : Nat) (u6 : Nat) (u7 : Nat) (u8 : Nat) (u9 : Nat) (u10 : Nat) (u11 : Nat) (u13 : Nat) (u15 : Nat) (u16 : Nat) (u17 : Nat) (u18 : Nat) (u19 : Nat) (u20 : Nat) (u22 : Nat) (th : Int32) (n : Nat) (pp : Nat) (wr : Int32) (cn : Nat) (hc : Nat) (ns : Nat) (pz : Nat) (cB : ClassId) (tb : Nat → Int32) (hn : n ≤ 120) (hp : pp ≤ n) : Met l y_Mo_word w_Mo_word ({ frames := 1, cells := 0, slots := 0, locals := 21 }) (va_Pc [.ref mm] (wy_R (dC, dI) ga_cl [(mm, .inr (5, [.int th, .ref u1, .int (nI n), .int (nI pp), .int wr, .ref u5, .ref u6, .ref u7, .ref u8, .ref u9, .ref u10, .ref u11, .int (nI cn), .ref u13, .int (nI hc), .ref u15, .ref u16, .ref u17, .ref u18, .ref u19, .ref u20, .int (nI ns), .ref u22, .int (nI pz)])), (u1, .inl (cB, 120, .inl tb))] [(cB, .byte)])) (vp_Sl (fun r => r = mo_wd (by8 tb) n pp (n - pp) pp 0)) 0 0 (fun _ => False) := by
  refine Met.ofW (cc := b_Mo_word) (maxL := 4) (ret := (some .long)) (by decide) rfl ?_
  intro p e s m args below meth c s₁ B hml hv
  obtain ⟨rfl, hP, hK, hN⟩ := hv
  have hx := B.exec
  have hb := B.bytes
  have hr := B.returns
  have hts : ∀ w ∈ ga_tbl, w.before _ s = true := fun w h => atoms_spec (ws := w_Mo_word) B.pre w (List.mem_cons_of_mem _ h)
  have hown : s.vm.findClass "PatternTextModel" = some m.cls := findClass_of_methodNamed B.named
  have hlocks := B.notSynchronized
  have hl := lv_entry ([.ref mm]) (n := 4) (Nat.le_of_ble_eq_true rfl)
  rw [lg_entry_eq]
  generalize (lg_sl ([.ref mm]) ++ List.replicate (4 - (lg_sl ([.ref mm])).length) Slot.unset).toArray = ls at hl ⊢
  have hl : lv_has ls 4 [(0, .ref mm)] := hl
  obtain ⟨Q0, hQ⟩ : ∃ Q0 : State → Prop, Q0 = MQ below (vp_Sl (fun r => r = mo_wd (by8 tb) n pp (n - pp) pp 0)) ([.ref mm] : List Value).toArray s 0 0 (fun _ => False) := ⟨_, rfl⟩
  show W p l e ({ frames := 1, cells := 0, slots := 0, locals := 21 }) s m ([.ref mm] : List Value).toArray below meth c s.heap [] 0 0 (MQ below (vp_Sl (fun r => r = mo_wd (by8 tb) n pp (n - pp) pp 0)) ([.ref mm] : List Value).toArray s 0 0 (fun _ => False)) (F0 m 0 ls [])
  rw [← hQ]
  refine lv_lconst (v := 0) hx hb d_Mo_word_0 rfl ?_
  refine lv_lstore_n (lv' := [(1, .long 0), (0, .ref mm)]) hx hb d_Mo_word_1 rfl hl (by decide) rfl (fun ls hl => ?_)
  refine lv_aload_n hx hb d_Mo_word_2 rfl (lv_at hl 1 rfl) ?_
  refine va_get (D := (dC, dI)) (ci := 5) (v := .int (nI pp)) (C := "PatternTextModel") (T := F_Mo) (N := 24) hx hb hts iw_Mo hown hK hP 0 rfl rfl 3 (by decide) (hts _ kw_563) (fun _ h9 => h9) rfl d_Mo_word_3 ?_
  refine lv_istore_n (lv' := [(3, .int (nI pp)), (1, .long 0), (0, .ref mm)]) hx hb d_Mo_word_6 rfl hl (by decide) rfl (fun ls hl => ?_)
  have loop_7 : ∀ (fu : Nat) (v : Int64) (k : Nat), (pp ≤ k) → (k ≤ n) → (mo_wd (by8 tb) n pp (n - k) k v = mo_wd (by8 tb) n pp (n - pp) pp 0) → n - k < fu → ∀ (ls : Array Slot), lv_has ls 4 [(0, .ref mm), (1, .long v), (3, .int (nI k))] → W p l e ({ frames := 1, cells := 0, slots := 0, locals := 21 }) s m ([.ref mm] : List Value).toArray below meth c s.heap [] 0 0 Q0 (F0 m 7 ls []) := by
    intro fu
    induction fu with
    | zero => intro v k h1 h2 hR hmu; exact absurd hmu (Nat.not_lt_zero _)
    | succ fu ih_7 =>
      intro v k h1 h2 hR hmu ls hl
      refine lv_aload_n hx hb d_Mo_word_7 rfl (lv_at hl 0 rfl) ?_
      refine lv_iload_n hx hb d_Mo_word_8 rfl (lv_at hl 2 rfl) ?_
      refine vp_callSi (va_runV (As := [.int (nI k)]) (rest := []) ⟨hx, hb, hml, hown, hts⟩ (c_Mo_look l dC dI mm u1 u5 u6 u7 u8 u9 u10 u11 u13 u15 u16 u17 u18 u19 u20 u22 th n (nI pp) wr cn hc ns pz cB tb k (by omega) (by omega)) (cwV 1 hts (ga_V kw_658 kw_660 kw_19 kw_38 (ga_in kw_661)) rfl rfl rfl (by decide +kernel) ⟨Nat.le_of_ble_eq_true rfl, Nat.le_of_ble_eq_true rfl⟩) (wy_preV 0 (hP.sub (ws' := [(mm, .inr (5, [.int th, .ref u1, .int (nI n), .int (nI pp), .int wr, .ref u5, .ref u6, .ref u7, .ref u8, .ref u9, .ref u10, .ref u11, .int (nI cn), .ref u13, .int (nI hc), .ref u15, .ref u16, .ref u17, .ref u18, .ref u19, .ref u20, .int (nI ns), .ref u22, .int (nI pz)])), (u1, .inl (cB, 120, .inl tb))]) [0, 1] rfl) (hK.sub (tys' := [(cB, .byte)]) [0] rfl) hN (ci := 5) rfl rfl rfl) rfl rfl hl.1 rfl (lv_room (Nat.le_of_ble_eq_true rfl)) d_Mo_word_9 ⟨Nat.le_of_ble_eq_true rfl, Nat.le_of_ble_eq_true rfl⟩).run (fun r_9 h_9 => ?_)
      subst h_9
      refine vp_callSi (va_runS (As := [.int (rd_sg (by8 tb) n k)]) (rest := []) ⟨hx, hb, hml, hown, hts⟩ (c_Mo_isLetter l dC dI (rd_sg (by8 tb) n k) ) (cwS 1 hts (ga_S kw_662 kw_663 kw_38 (ga_in kw_664)) rfl rfl rfl (by decide +kernel) ⟨Nat.le_of_ble_eq_true rfl, Nat.le_of_ble_eq_true rfl⟩) (wy_preS (hP.sub (ws' := []) [] rfl) (hK.sub (tys' := []) [] rfl) hN) rfl rfl hl.1 rfl (lv_room (Nat.le_of_ble_eq_true rfl)) d_Mo_word_12 ⟨Nat.le_of_ble_eq_true rfl, Nat.le_of_ble_eq_true rfl⟩).run (fun r_12 h_12 => ?_)
      subst h_12
      refine wy_ifeqB (tgt := 68) hx hb d_Mo_word_15 (by decide) (fun c_15 => ?_) (fun c_15 => ?_)
      · refine lv_lload_n hx hb d_Mo_word_68 rfl (lv_at hl 1 rfl) ?_
        rw [hQ]
        have z9 : mo_wd (by8 tb) n pp (n - pp) pp 0 = v := by rw [← hR]; exact mo_wd_0 c_15
        have q9 : (v : Int64) = mo_wd (by8 tb) n pp (n - pp) pp 0 := by rw [z9]
        exact W.lret (v := v) hx hb hr (fun t ht _ => ⟨_, rfl, q9, ht⟩) (fun _ h9 => by cases h9) d_Mo_word_69
      · refine lv_iload_n hx hb d_Mo_word_18 rfl (lv_at hl 2 rfl) ?_
        refine lv_aload_n hx hb d_Mo_word_19 rfl (lv_at hl 0 rfl) ?_
        refine va_get (D := (dC, dI)) (ci := 5) (v := .int (nI pp)) (C := "PatternTextModel") (T := F_Mo) (N := 24) hx hb hts iw_Mo hown hK hP 0 rfl rfl 3 (by decide) (hts _ kw_563) (fun _ h9 => h9) rfl d_Mo_word_20 ?_
        refine wy_isub hx hb k pp (by omega) d_Mo_word_23 ?_
        refine lv_bipush (v := 9) hx hb d_Mo_word_24 (by decide) ?_
        refine wy_icmp_le (tgt := 35) hx hb (k - pp) 9 (by omega) (by omega) d_Mo_word_26 (by decide) (fun c_26 => ?_) (fun c_26 => ?_)
        · refine lv_lload_n hx hb d_Mo_word_35 rfl (lv_at hl 1 rfl) ?_
          refine lv_lconst (v := 0) hx hb d_Mo_word_36 rfl ?_
          refine W.lcmp hx hb d_Mo_word_37 ?_
          refine lv_if_ge (tgt := 45) hx hb d_Mo_word_38 (by decide) (fun c_38 => ?_) (fun c_38 => ?_)
          · refine lv_lload_n hx hb d_Mo_word_45 rfl (lv_at hl 1 rfl) ?_
            refine lv_ldc2 (v := 32) hx hb hown (hts _ kw_666) d_Mo_word_46 ?_
            refine lv_lmul hx hb d_Mo_word_49 ?_
            refine lv_aload_n hx hb d_Mo_word_50 rfl (lv_at hl 0 rfl) ?_
            refine lv_iload_n hx hb d_Mo_word_51 rfl (lv_at hl 2 rfl) ?_
            refine vp_callSi (va_runV (As := [.int (nI k)]) (rest := [.long (v * 32)]) ⟨hx, hb, hml, hown, hts⟩ (c_Mo_look l dC dI mm u1 u5 u6 u7 u8 u9 u10 u11 u13 u15 u16 u17 u18 u19 u20 u22 th n (nI pp) wr cn hc ns pz cB tb k (by omega) (by omega)) (cwV 1 hts (ga_V kw_658 kw_660 kw_19 kw_38 (ga_in kw_661)) rfl rfl rfl (by decide +kernel) ⟨Nat.le_of_ble_eq_true rfl, Nat.le_of_ble_eq_true rfl⟩) (wy_preV 0 (hP.sub (ws' := [(mm, .inr (5, [.int th, .ref u1, .int (nI n), .int (nI pp), .int wr, .ref u5, .ref u6, .ref u7, .ref u8, .ref u9, .ref u10, .ref u11, .int (nI cn), .ref u13, .int (nI hc), .ref u15, .ref u16, .ref u17, .ref u18, .ref u19, .ref u20, .int (nI ns), .ref u22, .int (nI pz)])), (u1, .inl (cB, 120, .inl tb))]) [0, 1] rfl) (hK.sub (tys' := [(cB, .byte)]) [0] rfl) hN (ci := 5) rfl rfl rfl) rfl rfl hl.1 rfl (lv_room (Nat.le_of_ble_eq_true rfl)) d_Mo_word_52 ⟨Nat.le_of_ble_eq_true rfl, Nat.le_of_ble_eq_true rfl⟩).run (fun r_52 h_52 => ?_)
            subst h_52
            refine lv_i2l (v := (rd_sg (by8 tb) n k).toInt64) hx hb d_Mo_word_55 rfl ?_
            refine lv_ladd hx hb d_Mo_word_56 ?_
            refine lv_ldc2 (v := 96) hx hb hown (hts _ kw_667) d_Mo_word_57 ?_
            refine lv_lsub hx hb d_Mo_word_60 ?_
            refine lv_lstore_n (lv' := [(1, .long (((v * 32) + ((rd_sg (by8 tb) n k).toInt64)) - 96)), (0, .ref mm), (3, .int (nI k))]) hx hb d_Mo_word_61 rfl hl (by decide) rfl (fun ls hl => ?_)
            refine wy_iinc (x := k) (lv' := [(3, .int (nI (k + 1))), (1, .long (((v * 32) + ((rd_sg (by8 tb) n k).toInt64)) - 96)), (0, .ref mm)]) hx hb d_Mo_word_62 hl (k := 2) rfl (by decide) rfl (fun ls hl => ?_)
            refine lv_goto (tgt := 7) hx hb d_Mo_word_65 (by decide) ?_
            exact ih_7 (((v * 32) + ((rd_sg (by8 tb) n k).toInt64)) - 96) (k + 1) (by omega) (mo_let_lt c_15) (by rw [← hR, mo_wd_go c_15]; first | rw [if_pos c_26] | rw [if_neg (by omega), if_pos (lg_lt0 c_38)] | rw [if_neg (by omega), if_neg (lg_ge0 c_38)]) (by have := mo_let_lt c_15; omega) ls (lv_sub hl [2, 1, 0] rfl)
          · refine lv_lload_n hx hb d_Mo_word_41 rfl (lv_at hl 1 rfl) ?_
            refine lv_goto (tgt := 61) hx hb d_Mo_word_42 (by decide) ?_
            refine lv_lstore_n (lv' := [(1, .long v), (0, .ref mm), (3, .int (nI k))]) hx hb d_Mo_word_61 rfl hl (by decide) rfl (fun ls hl => ?_)
            refine wy_iinc (x := k) (lv' := [(3, .int (nI (k + 1))), (1, .long v), (0, .ref mm)]) hx hb d_Mo_word_62 hl (k := 2) rfl (by decide) rfl (fun ls hl => ?_)
            refine lv_goto (tgt := 7) hx hb d_Mo_word_65 (by decide) ?_
            exact ih_7 v (k + 1) (by omega) (mo_let_lt c_15) (by rw [← hR, mo_wd_go c_15]; first | rw [if_pos c_26] | rw [if_neg (by omega), if_pos (lg_lt0 c_38)] | rw [if_neg (by omega), if_neg (lg_ge0 c_38)]) (by have := mo_let_lt c_15; omega) ls (lv_sub hl [2, 1, 0] rfl)
        · refine lv_ldc2 (v := (-1)) hx hb hown (hts _ kw_665) d_Mo_word_29 ?_
          refine lv_goto (tgt := 61) hx hb d_Mo_word_32 (by decide) ?_
          refine lv_lstore_n (lv' := [(1, .long (-1)), (0, .ref mm), (3, .int (nI k))]) hx hb d_Mo_word_61 rfl hl (by decide) rfl (fun ls hl => ?_)
          refine wy_iinc (x := k) (lv' := [(3, .int (nI (k + 1))), (1, .long (-1)), (0, .ref mm)]) hx hb d_Mo_word_62 hl (k := 2) rfl (by decide) rfl (fun ls hl => ?_)
          refine lv_goto (tgt := 7) hx hb d_Mo_word_65 (by decide) ?_
          exact ih_7 (-1) (k + 1) (by omega) (mo_let_lt c_15) (by rw [← hR, mo_wd_go c_15]; first | rw [if_pos c_26] | rw [if_neg (by omega), if_pos (lg_lt0 c_38)] | rw [if_neg (by omega), if_neg (lg_ge0 c_38)]) (by have := mo_let_lt c_15; omega) ls (lv_sub hl [2, 1, 0] rfl)
  exact loop_7 _ 0 pp (by omega) (by omega) (rfl) (Nat.lt_succ_self _) ls (lv_sub hl [2, 1, 0] rfl)

set_option maxHeartbeats 4000000 in
set_option maxRecDepth 100000 in
theorem c_Mo_pass (l : Launch) (dC : Nat → ClassId) (dI : Nat → Nat → Nat) (sz : Nat) (mm : Nat) (u1 : Nat) (u5 : Nat) (u6 : Nat) (u7 : Nat) (u8 : Nat) (u9 : Nat) (u10 : Nat) (u11 : Nat) (u13 : Nat) (u15 : Nat) (u16 : Nat) (u17 : Nat) (u18 : Nat) (u19 : Nat) (u20 : Nat) (u22 : Nat) (th : Int32) (n : Nat) (pp : Nat) (wr : Int32) (cn : Nat) (hc : Nat) (ns : Nat) (pz : Nat) (cB : ClassId) (tb : Nat → Int32) (hn : n ≤ 120) (hp : pp ≤ n) : Met l y_Mo_pass w_Mo_pass ({ frames := 1, cells := 0, slots := 0, locals := 21 }) (va_Pc [.ref mm] (wy_M (dC, dI) ga_cl [(mm, .inr (5, [.int th, .ref u1, .int (nI n), .int (nI pp), .int wr, .ref u5, .ref u6, .ref u7, .ref u8, .ref u9, .ref u10, .ref u11, .int (nI cn), .ref u13, .int (nI hc), .ref u15, .ref u16, .ref u17, .ref u18, .ref u19, .ref u20, .int (nI ns), .ref u22, .int (nI pz)])), (u1, .inl (cB, 120, .inl tb))] [(cB, .byte)] sz)) (va_Qv (fun (_ : Unit) => True) (fun _ => wy_N (dC, dI) ga_cl [(cB, .byte)] (va_A [(mm, .inr (5, [.int th, .ref u1, .int (nI n), .int (nI pp), .int wr, .ref u5, .ref u6, .ref u7, .ref u8, .ref u9, .ref u10, .ref u11, .int (nI cn), .ref u13, .int (nI hc), .ref u15, .ref u16, .ref u17, .ref u18, .ref u19, .ref u20, .int (nI ns), .ref u22, .int (nI pz)])), (u1, .inl (cB, 120, .inl tb))] sz) [(mm, .inr (5, [.int th, .ref u1, .int (nI n), .int (nI (mo_en (by8 tb) n (n - pp) pp)), .int wr, .ref u5, .ref u6, .ref u7, .ref u8, .ref u9, .ref u10, .ref u11, .int (nI cn), .ref u13, .int (nI hc), .ref u15, .ref u16, .ref u17, .ref u18, .ref u19, .ref u20, .int (nI ns), .ref u22, .int (nI pz)])), (u1, .inl (cB, 120, .inl tb))]) (va_A [(mm, .inr (5, [.int th, .ref u1, .int (nI n), .int (nI pp), .int wr, .ref u5, .ref u6, .ref u7, .ref u8, .ref u9, .ref u10, .ref u11, .int (nI cn), .ref u13, .int (nI hc), .ref u15, .ref u16, .ref u17, .ref u18, .ref u19, .ref u20, .int (nI ns), .ref u22, .int (nI pz)])), (u1, .inl (cB, 120, .inl tb))] sz)) 0 0 (va_A [(mm, .inr (5, [.int th, .ref u1, .int (nI n), .int (nI pp), .int wr, .ref u5, .ref u6, .ref u7, .ref u8, .ref u9, .ref u10, .ref u11, .int (nI cn), .ref u13, .int (nI hc), .ref u15, .ref u16, .ref u17, .ref u18, .ref u19, .ref u20, .int (nI ns), .ref u22, .int (nI pz)])), (u1, .inl (cB, 120, .inl tb))] sz) := by
  refine Met.ofW (cc := b_Mo_pass) (maxL := 1) (ret := none) (by decide) rfl ?_
  intro p e s m args below meth c s₁ B hml hv
  obtain ⟨rfl, hsz, hP, hK, hN, hD0⟩ := hv
  have hx := B.exec
  have hb := B.bytes
  have hr := B.returns
  have hts : ∀ w ∈ ga_tbl, w.before _ s = true := fun w h => atoms_spec (ws := w_Mo_pass) B.pre w (List.mem_cons_of_mem _ h)
  have hown : s.vm.findClass "PatternTextModel" = some m.cls := findClass_of_methodNamed B.named
  have hlocks := B.notSynchronized
  subst hsz
  have hD := hD0.self (sz := s.heap.size)
  generalize hAe : va_A [(mm, .inr (5, [.int th, .ref u1, .int (nI n), .int (nI pp), .int wr, .ref u5, .ref u6, .ref u7, .ref u8, .ref u9, .ref u10, .ref u11, .int (nI cn), .ref u13, .int (nI hc), .ref u15, .ref u16, .ref u17, .ref u18, .ref u19, .ref u20, .int (nI ns), .ref u22, .int (nI pz)])), (u1, .inl (cB, 120, .inl tb))] s.heap.size = A at hD ⊢
  have hA : ∀ q : Nat, s.heap.size ≤ q → A q := fun q h => by rw [← hAe]; exact Or.inr h
  have hS : va_S A s.heap s.heap [] := va_S.rf
  have hl := lv_entry ([.ref mm]) (n := 1) (Nat.le_of_ble_eq_true rfl)
  rw [lg_entry_eq]
  generalize (lg_sl ([.ref mm]) ++ List.replicate (1 - (lg_sl ([.ref mm])).length) Slot.unset).toArray = ls at hl ⊢
  have hl : lv_has ls 1 [(0, .ref mm)] := hl
  obtain ⟨Q0, hQ⟩ : ∃ Q0 : State → Prop, Q0 = MQ below (va_Qv (fun (_ : Unit) => True) (fun _ => wy_N (dC, dI) ga_cl [(cB, .byte)] A [(mm, .inr (5, [.int th, .ref u1, .int (nI n), .int (nI (mo_en (by8 tb) n (n - pp) pp)), .int wr, .ref u5, .ref u6, .ref u7, .ref u8, .ref u9, .ref u10, .ref u11, .int (nI cn), .ref u13, .int (nI hc), .ref u15, .ref u16, .ref u17, .ref u18, .ref u19, .ref u20, .int (nI ns), .ref u22, .int (nI pz)])), (u1, .inl (cB, 120, .inl tb))]) A) ([.ref mm] : List Value).toArray s 0 0 A := ⟨_, rfl⟩
  show W p l e ({ frames := 1, cells := 0, slots := 0, locals := 21 }) s m ([.ref mm] : List Value).toArray below meth c s.heap [] 0 0 (MQ below (va_Qv (fun (_ : Unit) => True) (fun _ => wy_N (dC, dI) ga_cl [(cB, .byte)] A [(mm, .inr (5, [.int th, .ref u1, .int (nI n), .int (nI (mo_en (by8 tb) n (n - pp) pp)), .int wr, .ref u5, .ref u6, .ref u7, .ref u8, .ref u9, .ref u10, .ref u11, .int (nI cn), .ref u13, .int (nI hc), .ref u15, .ref u16, .ref u17, .ref u18, .ref u19, .ref u20, .int (nI ns), .ref u22, .int (nI pz)])), (u1, .inl (cB, 120, .inl tb))]) A) ([.ref mm] : List Value).toArray s 0 0 A) (F0 m 0 ls [])
  rw [← hQ]
  have loop_0 : ∀ (fu : Nat) (k : Nat), (k ≤ n) → (mo_en (by8 tb) n (n - k) k = mo_en (by8 tb) n (n - pp) pp) → n - k < fu → ∀ (H : Heap) (locs : List Loc), va_P (dC, dI) ga_cl [(mm, .inr (5, [.int th, .ref u1, .int (nI n), .int (nI k), .int wr, .ref u5, .ref u6, .ref u7, .ref u8, .ref u9, .ref u10, .ref u11, .int (nI cn), .ref u13, .int (nI hc), .ref u15, .ref u16, .ref u17, .ref u18, .ref u19, .ref u20, .int (nI ns), .ref u22, .int (nI pz)])), (u1, .inl (cB, 120, .inl tb))] H → va_D A [(mm, .inr (5, [.int th, .ref u1, .int (nI n), .int (nI k), .int wr, .ref u5, .ref u6, .ref u7, .ref u8, .ref u9, .ref u10, .ref u11, .int (nI cn), .ref u13, .int (nI hc), .ref u15, .ref u16, .ref u17, .ref u18, .ref u19, .ref u20, .int (nI ns), .ref u22, .int (nI pz)])), (u1, .inl (cB, 120, .inl tb))] → va_S A s.heap H locs → ∀ (ls : Array Slot), lv_has ls 1 [(0, .ref mm)] → W p l e ({ frames := 1, cells := 0, slots := 0, locals := 21 }) s m ([.ref mm] : List Value).toArray below meth c H locs 0 0 Q0 (F0 m 0 ls []) := by
    intro fu
    induction fu with
    | zero => intro k h2 hR hmu; exact absurd hmu (Nat.not_lt_zero _)
    | succ fu ih_0 =>
      intro k h2 hR hmu H locs hP hD hS ls hl
      refine lv_aload_n hx hb d_Mo_pass_0 rfl (lv_at hl 0 rfl) ?_
      refine lv_aload_n hx hb d_Mo_pass_1 rfl (lv_at hl 0 rfl) ?_
      refine va_get (D := (dC, dI)) (ci := 5) (v := .int (nI k)) (C := "PatternTextModel") (T := F_Mo) (N := 24) hx hb hts iw_Mo hown hK hP 0 rfl rfl 3 (by decide) (hts _ kw_563) (fun _ h9 => h9) rfl d_Mo_pass_2 ?_
      refine vp_callSi (va_runV (As := [.int (nI k)]) (rest := []) ⟨hx, hb, hml, hown, hts⟩ (c_Mo_look l dC dI mm u1 u5 u6 u7 u8 u9 u10 u11 u13 u15 u16 u17 u18 u19 u20 u22 th n (nI k) wr cn hc ns pz cB tb k (by omega) (by omega)) (cwV 1 hts (ga_V kw_658 kw_660 kw_19 kw_38 (ga_in kw_661)) rfl rfl rfl (by decide +kernel) ⟨Nat.le_of_ble_eq_true rfl, Nat.le_of_ble_eq_true rfl⟩) (wy_preV 0 (hP.sub (ws' := [(mm, .inr (5, [.int th, .ref u1, .int (nI n), .int (nI k), .int wr, .ref u5, .ref u6, .ref u7, .ref u8, .ref u9, .ref u10, .ref u11, .int (nI cn), .ref u13, .int (nI hc), .ref u15, .ref u16, .ref u17, .ref u18, .ref u19, .ref u20, .int (nI ns), .ref u22, .int (nI pz)])), (u1, .inl (cB, 120, .inl tb))]) [0, 1] rfl) (hK.sub (tys' := [(cB, .byte)]) [0] rfl) hN (ci := 5) rfl rfl rfl) rfl rfl hl.1 rfl (lv_room (Nat.le_of_ble_eq_true rfl)) d_Mo_pass_5 ⟨Nat.le_of_ble_eq_true rfl, Nat.le_of_ble_eq_true rfl⟩).run (fun r_5 h_5 => ?_)
      subst h_5
      refine vp_callSi (va_runS (As := [.int (rd_sg (by8 tb) n k)]) (rest := []) ⟨hx, hb, hml, hown, hts⟩ (c_Mo_isLetter l dC dI (rd_sg (by8 tb) n k) ) (cwS 1 hts (ga_S kw_662 kw_663 kw_38 (ga_in kw_664)) rfl rfl rfl (by decide +kernel) ⟨Nat.le_of_ble_eq_true rfl, Nat.le_of_ble_eq_true rfl⟩) (wy_preS (hP.sub (ws' := []) [] rfl) (hK.sub (tys' := []) [] rfl) hN) rfl rfl hl.1 rfl (lv_room (Nat.le_of_ble_eq_true rfl)) d_Mo_pass_8 ⟨Nat.le_of_ble_eq_true rfl, Nat.le_of_ble_eq_true rfl⟩).run (fun r_8 h_8 => ?_)
      subst h_8
      refine wy_ifeqB (tgt := 27) hx hb d_Mo_pass_11 (by decide) (fun c_11 => ?_) (fun c_11 => ?_)
      · rw [hQ]
        have z9 : mo_en (by8 tb) n (n - pp) pp = k := by rw [← hR]; exact mo_en_0 c_11
        have e9 : ([(mm, .inr (5, [.int th, .ref u1, .int (nI n), .int (nI (mo_en (by8 tb) n (n - pp) pp)), .int wr, .ref u5, .ref u6, .ref u7, .ref u8, .ref u9, .ref u10, .ref u11, .int (nI cn), .ref u13, .int (nI hc), .ref u15, .ref u16, .ref u17, .ref u18, .ref u19, .ref u20, .int (nI ns), .ref u22, .int (nI pz)])), (u1, .inl (cB, 120, .inl tb))] : va_W) = [(mm, .inr (5, [.int th, .ref u1, .int (nI n), .int (nI k), .int wr, .ref u5, .ref u6, .ref u7, .ref u8, .ref u9, .ref u10, .ref u11, .int (nI cn), .ref u13, .int (nI hc), .ref u15, .ref u16, .ref u17, .ref u18, .ref u19, .ref u20, .int (nI ns), .ref u22, .int (nI pz)])), (u1, .inl (cB, 120, .inl tb))] := by rw [z9]
        exact W.vret hx hb hr (fun t ht hW => ⟨⟨(), rfl, trivial, by rw [ht, e9]; exact hP, va_K.moved hW.alike hK, by rw [e9]; exact hD⟩, hS.F ht⟩) hS.2.2 d_Mo_pass_27
      · refine lv_aload_n hx hb d_Mo_pass_14 rfl (lv_at hl 0 rfl) ?_
        refine lv_dup hx hb d_Mo_pass_15 rfl ?_
        refine va_get (D := (dC, dI)) (ci := 5) (v := .int (nI k)) (C := "PatternTextModel") (T := F_Mo) (N := 24) hx hb hts iw_Mo hown hK hP 0 rfl rfl 3 (by decide) (hts _ kw_563) (fun _ h9 => h9) rfl d_Mo_pass_16 ?_
        refine lv_iconst (v := 1) hx hb d_Mo_pass_19 (by decide) ?_
        refine wy_iadd hx hb k 1 d_Mo_pass_20 ?_
        refine va_put (D := (dC, dI)) (ci := 5) (v := .int (nI (k + 1))) (ty := .int) (C := "PatternTextModel") (T := F_Mo) (N := 24) hx hb hts iw_Mo t_Mo t_Mo_ok n_Mo hown hK hP hD hS 0 rfl rfl 3 (by decide) (hts _ kw_563) (fun _ h9 => h9) rfl (by decide +kernel) rfl rfl (Nat.le_of_ble_eq_true rfl) d_Mo_pass_21 (fun H locs hP hD hS => ?_)
        have hP : va_P (dC, dI) ga_cl [(mm, .inr (5, [.int th, .ref u1, .int (nI n), .int (nI (k + 1)), .int wr, .ref u5, .ref u6, .ref u7, .ref u8, .ref u9, .ref u10, .ref u11, .int (nI cn), .ref u13, .int (nI hc), .ref u15, .ref u16, .ref u17, .ref u18, .ref u19, .ref u20, .int (nI ns), .ref u22, .int (nI pz)])), (u1, .inl (cB, 120, .inl tb))] H := hP
        have hD : va_D A [(mm, .inr (5, [.int th, .ref u1, .int (nI n), .int (nI (k + 1)), .int wr, .ref u5, .ref u6, .ref u7, .ref u8, .ref u9, .ref u10, .ref u11, .int (nI cn), .ref u13, .int (nI hc), .ref u15, .ref u16, .ref u17, .ref u18, .ref u19, .ref u20, .int (nI ns), .ref u22, .int (nI pz)])), (u1, .inl (cB, 120, .inl tb))] := hD
        refine lv_goto (tgt := 0) hx hb d_Mo_pass_24 (by decide) ?_
        exact ih_0 (k + 1) (mo_let_lt c_11) ((mo_en_go c_11).symm.trans hR) (by have := mo_let_lt c_11; omega) H locs hP hD hS ls (lv_sub hl [0] rfl)
  exact loop_0 _ pp (by omega) (rfl) (Nat.lt_succ_self _) s.heap ([]) hP hD hS ls (lv_sub hl [0] rfl)

set_option maxHeartbeats 4000000 in
set_option maxRecDepth 100000 in
theorem c_Mo_number (l : Launch) (dC : Nat → ClassId) (dI : Nat → Nat → Nat) (sz : Nat) (mm : Nat) (u1 : Nat) (u5 : Nat) (u6 : Nat) (u7 : Nat) (u8 : Nat) (u9 : Nat) (u10 : Nat) (u11 : Nat) (u13 : Nat) (u15 : Nat) (u16 : Nat) (u17 : Nat) (u18 : Nat) (u19 : Nat) (u20 : Nat) (u22 : Nat) (th : Int32) (n : Nat) (pp : Nat) (wr : Int32) (cn : Nat) (hc : Nat) (ns : Nat) (pz : Nat) (cB : ClassId) (tb : Nat → Int32) (lo : Nat) (hi : Nat) (hn : n ≤ 120) (hp : pp ≤ n) (hlo : lo ≤ 99) (hhi : hi ≤ 99) : Met l y_Mo_number w_Mo_number ({ frames := 1, cells := 0, slots := 0, locals := 21 }) (va_Pc [.ref mm, .int (nI lo), .int (nI hi)] (wy_M (dC, dI) ga_cl [(mm, .inr (5, [.int th, .ref u1, .int (nI n), .int (nI pp), .int wr, .ref u5, .ref u6, .ref u7, .ref u8, .ref u9, .ref u10, .ref u11, .int (nI cn), .ref u13, .int (nI hc), .ref u15, .ref u16, .ref u17, .ref u18, .ref u19, .ref u20, .int (nI ns), .ref u22, .int (nI pz)])), (u1, .inl (cB, 120, .inl tb))] [(cB, .byte)] sz)) (va_Qi (fun (r : Int32) (_ : Unit) => r = cond (rd_num (by8 tb) n lo hi pp) (nI (rd_val (by8 tb) n pp)) (-1)) (fun _ => wy_N (dC, dI) ga_cl [(cB, .byte)] (va_A [(mm, .inr (5, [.int th, .ref u1, .int (nI n), .int (nI pp), .int wr, .ref u5, .ref u6, .ref u7, .ref u8, .ref u9, .ref u10, .ref u11, .int (nI cn), .ref u13, .int (nI hc), .ref u15, .ref u16, .ref u17, .ref u18, .ref u19, .ref u20, .int (nI ns), .ref u22, .int (nI pz)])), (u1, .inl (cB, 120, .inl tb))] sz) [(mm, .inr (5, [.int th, .ref u1, .int (nI n), .int (nI (rd_end (by8 tb) n pp)), .int (cond (rd_num (by8 tb) n lo hi pp) wr (nI pp)), .ref u5, .ref u6, .ref u7, .ref u8, .ref u9, .ref u10, .ref u11, .int (nI cn), .ref u13, .int (nI hc), .ref u15, .ref u16, .ref u17, .ref u18, .ref u19, .ref u20, .int (nI ns), .ref u22, .int (nI pz)])), (u1, .inl (cB, 120, .inl tb))]) (va_A [(mm, .inr (5, [.int th, .ref u1, .int (nI n), .int (nI pp), .int wr, .ref u5, .ref u6, .ref u7, .ref u8, .ref u9, .ref u10, .ref u11, .int (nI cn), .ref u13, .int (nI hc), .ref u15, .ref u16, .ref u17, .ref u18, .ref u19, .ref u20, .int (nI ns), .ref u22, .int (nI pz)])), (u1, .inl (cB, 120, .inl tb))] sz)) 0 0 (va_A [(mm, .inr (5, [.int th, .ref u1, .int (nI n), .int (nI pp), .int wr, .ref u5, .ref u6, .ref u7, .ref u8, .ref u9, .ref u10, .ref u11, .int (nI cn), .ref u13, .int (nI hc), .ref u15, .ref u16, .ref u17, .ref u18, .ref u19, .ref u20, .int (nI ns), .ref u22, .int (nI pz)])), (u1, .inl (cB, 120, .inl tb))] sz) := by
  refine Met.ofW (cc := b_Mo_number) (maxL := 6) (ret := (some .int)) (by decide) rfl ?_
  intro p e s m args below meth c s₁ B hml hv
  obtain ⟨rfl, hsz, hP, hK, hN, hD0⟩ := hv
  have hx := B.exec
  have hb := B.bytes
  have hr := B.returns
  have hts : ∀ w ∈ ga_tbl, w.before _ s = true := fun w h => atoms_spec (ws := w_Mo_number) B.pre w (List.mem_cons_of_mem _ h)
  have hown : s.vm.findClass "PatternTextModel" = some m.cls := findClass_of_methodNamed B.named
  have hlocks := B.notSynchronized
  subst hsz
  have hD := hD0.self (sz := s.heap.size)
  generalize hAe : va_A [(mm, .inr (5, [.int th, .ref u1, .int (nI n), .int (nI pp), .int wr, .ref u5, .ref u6, .ref u7, .ref u8, .ref u9, .ref u10, .ref u11, .int (nI cn), .ref u13, .int (nI hc), .ref u15, .ref u16, .ref u17, .ref u18, .ref u19, .ref u20, .int (nI ns), .ref u22, .int (nI pz)])), (u1, .inl (cB, 120, .inl tb))] s.heap.size = A at hD ⊢
  have hA : ∀ q : Nat, s.heap.size ≤ q → A q := fun q h => by rw [← hAe]; exact Or.inr h
  have hS : va_S A s.heap s.heap [] := va_S.rf
  have hl := lv_entry ([.ref mm, .int (nI lo), .int (nI hi)]) (n := 6) (Nat.le_of_ble_eq_true rfl)
  rw [lg_entry_eq]
  generalize (lg_sl ([.ref mm, .int (nI lo), .int (nI hi)]) ++ List.replicate (6 - (lg_sl ([.ref mm, .int (nI lo), .int (nI hi)])).length) Slot.unset).toArray = ls at hl ⊢
  have hl : lv_has ls 6 [(0, .ref mm), (1, .int (nI lo)), (2, .int (nI hi))] := hl
  obtain ⟨Q0, hQ⟩ : ∃ Q0 : State → Prop, Q0 = MQ below (va_Qi (fun (r : Int32) (_ : Unit) => r = cond (rd_num (by8 tb) n lo hi pp) (nI (rd_val (by8 tb) n pp)) (-1)) (fun _ => wy_N (dC, dI) ga_cl [(cB, .byte)] A [(mm, .inr (5, [.int th, .ref u1, .int (nI n), .int (nI (rd_end (by8 tb) n pp)), .int (cond (rd_num (by8 tb) n lo hi pp) wr (nI pp)), .ref u5, .ref u6, .ref u7, .ref u8, .ref u9, .ref u10, .ref u11, .int (nI cn), .ref u13, .int (nI hc), .ref u15, .ref u16, .ref u17, .ref u18, .ref u19, .ref u20, .int (nI ns), .ref u22, .int (nI pz)])), (u1, .inl (cB, 120, .inl tb))]) A) ([.ref mm, .int (nI lo), .int (nI hi)] : List Value).toArray s 0 0 A := ⟨_, rfl⟩
  show W p l e ({ frames := 1, cells := 0, slots := 0, locals := 21 }) s m ([.ref mm, .int (nI lo), .int (nI hi)] : List Value).toArray below meth c s.heap [] 0 0 (MQ below (va_Qi (fun (r : Int32) (_ : Unit) => r = cond (rd_num (by8 tb) n lo hi pp) (nI (rd_val (by8 tb) n pp)) (-1)) (fun _ => wy_N (dC, dI) ga_cl [(cB, .byte)] A [(mm, .inr (5, [.int th, .ref u1, .int (nI n), .int (nI (rd_end (by8 tb) n pp)), .int (cond (rd_num (by8 tb) n lo hi pp) wr (nI pp)), .ref u5, .ref u6, .ref u7, .ref u8, .ref u9, .ref u10, .ref u11, .int (nI cn), .ref u13, .int (nI hc), .ref u15, .ref u16, .ref u17, .ref u18, .ref u19, .ref u20, .int (nI ns), .ref u22, .int (nI pz)])), (u1, .inl (cB, 120, .inl tb))]) A) ([.ref mm, .int (nI lo), .int (nI hi)] : List Value).toArray s 0 0 A) (F0 m 0 ls [])
  rw [← hQ]
  refine lv_aload_n hx hb d_Mo_number_0 rfl (lv_at hl 0 rfl) ?_
  refine va_get (D := (dC, dI)) (ci := 5) (v := .int (nI pp)) (C := "PatternTextModel") (T := F_Mo) (N := 24) hx hb hts iw_Mo hown hK hP 0 rfl rfl 3 (by decide) (hts _ kw_563) (fun _ h9 => h9) rfl d_Mo_number_1 ?_
  refine lv_istore_n (lv' := [(3, .int (nI pp)), (0, .ref mm), (1, .int (nI lo)), (2, .int (nI hi))]) hx hb d_Mo_number_4 rfl hl (by decide) rfl (fun ls hl => ?_)
  refine lv_iconst (v := 0) hx hb d_Mo_number_5 (by decide) ?_
  refine lv_istore (lv' := [(4, .int 0), (3, .int (nI pp)), (0, .ref mm), (1, .int (nI lo)), (2, .int (nI hi))]) hx hb d_Mo_number_6 hl (by decide) rfl (fun ls hl => ?_)
  have loop_8 : ∀ (fu : Nat) (ee : Nat) (vv : Nat), (pp ≤ ee) → (ee ≤ n) → (vv ≤ 9999) → (ee ≤ pp + 2 → vv ≤ 99) → (ee ≤ pp + 1 → vv ≤ 9) → (ee ≤ pp → vv = 0) → (mo_dg (by8 tb) n pp (n - ee) ee vv = mo_dg (by8 tb) n pp (n - pp) pp 0) → n - ee < fu → ∀ (H : Heap) (locs : List Loc), va_P (dC, dI) ga_cl [(mm, .inr (5, [.int th, .ref u1, .int (nI n), .int (nI ee), .int wr, .ref u5, .ref u6, .ref u7, .ref u8, .ref u9, .ref u10, .ref u11, .int (nI cn), .ref u13, .int (nI hc), .ref u15, .ref u16, .ref u17, .ref u18, .ref u19, .ref u20, .int (nI ns), .ref u22, .int (nI pz)])), (u1, .inl (cB, 120, .inl tb))] H → va_D A [(mm, .inr (5, [.int th, .ref u1, .int (nI n), .int (nI ee), .int wr, .ref u5, .ref u6, .ref u7, .ref u8, .ref u9, .ref u10, .ref u11, .int (nI cn), .ref u13, .int (nI hc), .ref u15, .ref u16, .ref u17, .ref u18, .ref u19, .ref u20, .int (nI ns), .ref u22, .int (nI pz)])), (u1, .inl (cB, 120, .inl tb))] → va_S A s.heap H locs → ∀ (ls : Array Slot), lv_has ls 6 [(0, .ref mm), (1, .int (nI lo)), (2, .int (nI hi)), (3, .int (nI pp)), (4, .int (nI vv))] → W p l e ({ frames := 1, cells := 0, slots := 0, locals := 21 }) s m ([.ref mm, .int (nI lo), .int (nI hi)] : List Value).toArray below meth c H locs 0 0 Q0 (F0 m 8 ls []) := by
    intro fu
    induction fu with
    | zero => intro ee vv h1 h2 h3 h4 h5 h6 hR hmu; exact absurd hmu (Nat.not_lt_zero _)
    | succ fu ih_8 =>
      intro ee vv h1 h2 h3 h4 h5 h6 hR hmu H locs hP hD hS ls hl
      refine lv_aload_n hx hb d_Mo_number_8 rfl (lv_at hl 0 rfl) ?_
      refine lv_aload_n hx hb d_Mo_number_9 rfl (lv_at hl 0 rfl) ?_
      refine va_get (D := (dC, dI)) (ci := 5) (v := .int (nI ee)) (C := "PatternTextModel") (T := F_Mo) (N := 24) hx hb hts iw_Mo hown hK hP 0 rfl rfl 3 (by decide) (hts _ kw_563) (fun _ h9 => h9) rfl d_Mo_number_10 ?_
      refine vp_callSi (va_runV (As := [.int (nI ee)]) (rest := []) ⟨hx, hb, hml, hown, hts⟩ (c_Mo_look l dC dI mm u1 u5 u6 u7 u8 u9 u10 u11 u13 u15 u16 u17 u18 u19 u20 u22 th n (nI ee) wr cn hc ns pz cB tb ee (by omega) (by omega)) (cwV 1 hts (ga_V kw_658 kw_660 kw_19 kw_38 (ga_in kw_661)) rfl rfl rfl (by decide +kernel) ⟨Nat.le_of_ble_eq_true rfl, Nat.le_of_ble_eq_true rfl⟩) (wy_preV 0 (hP.sub (ws' := [(mm, .inr (5, [.int th, .ref u1, .int (nI n), .int (nI ee), .int wr, .ref u5, .ref u6, .ref u7, .ref u8, .ref u9, .ref u10, .ref u11, .int (nI cn), .ref u13, .int (nI hc), .ref u15, .ref u16, .ref u17, .ref u18, .ref u19, .ref u20, .int (nI ns), .ref u22, .int (nI pz)])), (u1, .inl (cB, 120, .inl tb))]) [0, 1] rfl) (hK.sub (tys' := [(cB, .byte)]) [0] rfl) hN (ci := 5) rfl rfl rfl) rfl rfl hl.1 rfl (lv_room (Nat.le_of_ble_eq_true rfl)) d_Mo_number_13 ⟨Nat.le_of_ble_eq_true rfl, Nat.le_of_ble_eq_true rfl⟩).run (fun r_13 h_13 => ?_)
      subst h_13
      refine vp_callSi (va_runS (As := [.int (rd_sg (by8 tb) n ee)]) (rest := []) ⟨hx, hb, hml, hown, hts⟩ (c_Mo_isDigit l dC dI (rd_sg (by8 tb) n ee) ) (cwS 1 hts (ga_S kw_685 kw_686 kw_38 (ga_in kw_687)) rfl rfl rfl (by decide +kernel) ⟨Nat.le_of_ble_eq_true rfl, Nat.le_of_ble_eq_true rfl⟩) (wy_preS (hP.sub (ws' := []) [] rfl) (hK.sub (tys' := []) [] rfl) hN) rfl rfl hl.1 rfl (lv_room (Nat.le_of_ble_eq_true rfl)) d_Mo_number_16 ⟨Nat.le_of_ble_eq_true rfl, Nat.le_of_ble_eq_true rfl⟩).run (fun r_16 h_16 => ?_)
      subst h_16
      refine wy_ifeqB (tgt := 70) hx hb d_Mo_number_19 (by decide) (fun c_19 => ?_) (fun c_19 => ?_)
      · have hX : mo_dg (by8 tb) n pp (n - pp) pp 0 = (ee, vv) := by rw [← hR]; exact mo_dg_0 c_19
        refine lv_aload_n hx hb d_Mo_number_70 rfl (lv_at hl 0 rfl) ?_
        refine lv_iload_n hx hb d_Mo_number_71 rfl (lv_at hl 3 rfl) ?_
        refine vp_callSi (va_runV (As := [.int (nI pp)]) (rest := []) ⟨hx, hb, hml, hown, hts⟩ (c_Mo_look l dC dI mm u1 u5 u6 u7 u8 u9 u10 u11 u13 u15 u16 u17 u18 u19 u20 u22 th n (nI ee) wr cn hc ns pz cB tb pp (by omega) (by omega)) (cwV 1 hts (ga_V kw_658 kw_660 kw_19 kw_38 (ga_in kw_661)) rfl rfl rfl (by decide +kernel) ⟨Nat.le_of_ble_eq_true rfl, Nat.le_of_ble_eq_true rfl⟩) (wy_preV 0 (hP.sub (ws' := [(mm, .inr (5, [.int th, .ref u1, .int (nI n), .int (nI ee), .int wr, .ref u5, .ref u6, .ref u7, .ref u8, .ref u9, .ref u10, .ref u11, .int (nI cn), .ref u13, .int (nI hc), .ref u15, .ref u16, .ref u17, .ref u18, .ref u19, .ref u20, .int (nI ns), .ref u22, .int (nI pz)])), (u1, .inl (cB, 120, .inl tb))]) [0, 1] rfl) (hK.sub (tys' := [(cB, .byte)]) [0] rfl) hN (ci := 5) rfl rfl rfl) rfl rfl hl.1 rfl (lv_room (Nat.le_of_ble_eq_true rfl)) d_Mo_number_72 ⟨Nat.le_of_ble_eq_true rfl, Nat.le_of_ble_eq_true rfl⟩).run (fun r_72 h_72 => ?_)
        subst h_72
        refine lv_bipush (v := 48) hx hb d_Mo_number_75 (by decide) ?_
        refine lv_icmp_ne (tgt := 94) hx hb d_Mo_number_77 (by decide) (fun c_77 => ?_) (fun c_77 => ?_)
        · refine lv_iconst (v := 0) hx hb d_Mo_number_94 (by decide) ?_
          refine lv_istore (lv' := [(5, .int 0), (0, .ref mm), (1, .int (nI lo)), (2, .int (nI hi)), (3, .int (nI pp)), (4, .int (nI vv))]) hx hb d_Mo_number_95 hl (by decide) rfl (fun ls hl => ?_)
          refine lv_aload_n hx hb d_Mo_number_97 rfl (lv_at hl 1 rfl) ?_
          refine va_get (D := (dC, dI)) (ci := 5) (v := .int (nI ee)) (C := "PatternTextModel") (T := F_Mo) (N := 24) hx hb hts iw_Mo hown hK hP 0 rfl rfl 3 (by decide) (hts _ kw_563) (fun _ h9 => h9) rfl d_Mo_number_98 ?_
          refine lv_iload_n hx hb d_Mo_number_101 rfl (lv_at hl 4 rfl) ?_
          refine wy_icmp_eq (tgt := 132) hx hb ee pp (by omega) (by omega) d_Mo_number_102 (by decide) (fun c_102 => ?_) (fun c_102 => ?_)
          · refine lv_aload_n hx hb d_Mo_number_132 rfl (lv_at hl 1 rfl) ?_
            refine lv_iload_n hx hb d_Mo_number_133 rfl (lv_at hl 4 rfl) ?_
            refine va_put (D := (dC, dI)) (ci := 5) (v := .int (nI pp)) (ty := .int) (C := "PatternTextModel") (T := F_Mo) (N := 24) hx hb hts iw_Mo t_Mo t_Mo_ok n_Mo hown hK hP hD hS 0 rfl rfl 4 (by decide) (hts _ kw_564) (fun _ h9 => h9) rfl (by decide +kernel) rfl rfl (Nat.le_of_ble_eq_true rfl) d_Mo_number_134 (fun H locs hP hD hS => ?_)
            have hP : va_P (dC, dI) ga_cl [(mm, .inr (5, [.int th, .ref u1, .int (nI n), .int (nI ee), .int (nI pp), .ref u5, .ref u6, .ref u7, .ref u8, .ref u9, .ref u10, .ref u11, .int (nI cn), .ref u13, .int (nI hc), .ref u15, .ref u16, .ref u17, .ref u18, .ref u19, .ref u20, .int (nI ns), .ref u22, .int (nI pz)])), (u1, .inl (cB, 120, .inl tb))] H := hP
            have hD : va_D A [(mm, .inr (5, [.int th, .ref u1, .int (nI n), .int (nI ee), .int (nI pp), .ref u5, .ref u6, .ref u7, .ref u8, .ref u9, .ref u10, .ref u11, .int (nI cn), .ref u13, .int (nI hc), .ref u15, .ref u16, .ref u17, .ref u18, .ref u19, .ref u20, .int (nI ns), .ref u22, .int (nI pz)])), (u1, .inl (cB, 120, .inl tb))] := hD
            refine lv_iconst (v := -1) hx hb d_Mo_number_137 (by decide) ?_
            rw [hQ]
            obtain ⟨he, hv, hw⟩ := mo_dg_eq hX
            have z9 : rd_num (by8 tb) n lo hi pp = false := by
              by_cases h2 : pp + 2 < ee
              · simp only [rd_num, he]; rcases hw h2 with h | h
                · simp [h]; omega
                · simp [h]; omega
              · have hvv := hv (by omega)
                simp only [rd_num, he, hvv]; by_cases hs : rd_sg (by8 tb) n pp = 48 <;> simp [hs] <;> first | omega | (simp [hs] at * <;> omega) | (simp_all <;> omega)
            have q9 : ((-1) : Int32) = cond (rd_num (by8 tb) n lo hi pp) (nI (rd_val (by8 tb) n pp)) (-1) := by rw [z9]; rfl
            have e9 : ([(mm, .inr (5, [.int th, .ref u1, .int (nI n), .int (nI (rd_end (by8 tb) n pp)), .int (cond (rd_num (by8 tb) n lo hi pp) wr (nI pp)), .ref u5, .ref u6, .ref u7, .ref u8, .ref u9, .ref u10, .ref u11, .int (nI cn), .ref u13, .int (nI hc), .ref u15, .ref u16, .ref u17, .ref u18, .ref u19, .ref u20, .int (nI ns), .ref u22, .int (nI pz)])), (u1, .inl (cB, 120, .inl tb))] : va_W) = [(mm, .inr (5, [.int th, .ref u1, .int (nI n), .int (nI ee), .int (nI pp), .ref u5, .ref u6, .ref u7, .ref u8, .ref u9, .ref u10, .ref u11, .int (nI cn), .ref u13, .int (nI hc), .ref u15, .ref u16, .ref u17, .ref u18, .ref u19, .ref u20, .int (nI ns), .ref u22, .int (nI pz)])), (u1, .inl (cB, 120, .inl tb))] := by rw [z9, he] <;> rfl
            exact W.iret (v := (-1)) hx hb hr (fun t ht hW => ⟨⟨_, (), rfl, q9, by rw [ht, e9]; exact hP, va_K.moved hW.alike hK, by rw [e9]; exact hD⟩, hS.F ht⟩) hS.2.2 d_Mo_number_138
          · refine lv_iload hx hb d_Mo_number_105 (lv_at hl 0 rfl) ?_
            refine lv_if_ne (tgt := 132) hx hb d_Mo_number_107 (by decide) (fun z9 => absurd z9 (by decide)) (fun _ => ?_)
            refine lv_aload_n hx hb d_Mo_number_110 rfl (lv_at hl 1 rfl) ?_
            refine va_get (D := (dC, dI)) (ci := 5) (v := .int (nI ee)) (C := "PatternTextModel") (T := F_Mo) (N := 24) hx hb hts iw_Mo hown hK hP 0 rfl rfl 3 (by decide) (hts _ kw_563) (fun _ h9 => h9) rfl d_Mo_number_111 ?_
            refine lv_iload_n hx hb d_Mo_number_114 rfl (lv_at hl 4 rfl) ?_
            refine wy_isub hx hb ee pp (by omega) d_Mo_number_115 ?_
            refine lv_iconst (v := 2) hx hb d_Mo_number_116 (by decide) ?_
            refine wy_icmp_gt (tgt := 132) hx hb (ee - pp) 2 (by omega) (by omega) d_Mo_number_117 (by decide) (fun c_117 => ?_) (fun c_117 => ?_)
            · refine lv_aload_n hx hb d_Mo_number_132 rfl (lv_at hl 1 rfl) ?_
              refine lv_iload_n hx hb d_Mo_number_133 rfl (lv_at hl 4 rfl) ?_
              refine va_put (D := (dC, dI)) (ci := 5) (v := .int (nI pp)) (ty := .int) (C := "PatternTextModel") (T := F_Mo) (N := 24) hx hb hts iw_Mo t_Mo t_Mo_ok n_Mo hown hK hP hD hS 0 rfl rfl 4 (by decide) (hts _ kw_564) (fun _ h9 => h9) rfl (by decide +kernel) rfl rfl (Nat.le_of_ble_eq_true rfl) d_Mo_number_134 (fun H locs hP hD hS => ?_)
              have hP : va_P (dC, dI) ga_cl [(mm, .inr (5, [.int th, .ref u1, .int (nI n), .int (nI ee), .int (nI pp), .ref u5, .ref u6, .ref u7, .ref u8, .ref u9, .ref u10, .ref u11, .int (nI cn), .ref u13, .int (nI hc), .ref u15, .ref u16, .ref u17, .ref u18, .ref u19, .ref u20, .int (nI ns), .ref u22, .int (nI pz)])), (u1, .inl (cB, 120, .inl tb))] H := hP
              have hD : va_D A [(mm, .inr (5, [.int th, .ref u1, .int (nI n), .int (nI ee), .int (nI pp), .ref u5, .ref u6, .ref u7, .ref u8, .ref u9, .ref u10, .ref u11, .int (nI cn), .ref u13, .int (nI hc), .ref u15, .ref u16, .ref u17, .ref u18, .ref u19, .ref u20, .int (nI ns), .ref u22, .int (nI pz)])), (u1, .inl (cB, 120, .inl tb))] := hD
              refine lv_iconst (v := -1) hx hb d_Mo_number_137 (by decide) ?_
              rw [hQ]
              obtain ⟨he, hv, hw⟩ := mo_dg_eq hX
              have z9 : rd_num (by8 tb) n lo hi pp = false := by
                by_cases h2 : pp + 2 < ee
                · simp only [rd_num, he]; rcases hw h2 with h | h
                  · simp [h]; omega
                  · simp [h]; omega
                · have hvv := hv (by omega)
                  simp only [rd_num, he, hvv]; by_cases hs : rd_sg (by8 tb) n pp = 48 <;> simp [hs] <;> first | omega | (simp [hs] at * <;> omega) | (simp_all <;> omega)
              have q9 : ((-1) : Int32) = cond (rd_num (by8 tb) n lo hi pp) (nI (rd_val (by8 tb) n pp)) (-1) := by rw [z9]; rfl
              have e9 : ([(mm, .inr (5, [.int th, .ref u1, .int (nI n), .int (nI (rd_end (by8 tb) n pp)), .int (cond (rd_num (by8 tb) n lo hi pp) wr (nI pp)), .ref u5, .ref u6, .ref u7, .ref u8, .ref u9, .ref u10, .ref u11, .int (nI cn), .ref u13, .int (nI hc), .ref u15, .ref u16, .ref u17, .ref u18, .ref u19, .ref u20, .int (nI ns), .ref u22, .int (nI pz)])), (u1, .inl (cB, 120, .inl tb))] : va_W) = [(mm, .inr (5, [.int th, .ref u1, .int (nI n), .int (nI ee), .int (nI pp), .ref u5, .ref u6, .ref u7, .ref u8, .ref u9, .ref u10, .ref u11, .int (nI cn), .ref u13, .int (nI hc), .ref u15, .ref u16, .ref u17, .ref u18, .ref u19, .ref u20, .int (nI ns), .ref u22, .int (nI pz)])), (u1, .inl (cB, 120, .inl tb))] := by rw [z9, he] <;> rfl
              exact W.iret (v := (-1)) hx hb hr (fun t ht hW => ⟨⟨_, (), rfl, q9, by rw [ht, e9]; exact hP, va_K.moved hW.alike hK, by rw [e9]; exact hD⟩, hS.F ht⟩) hS.2.2 d_Mo_number_138
            · refine lv_iload hx hb d_Mo_number_120 (lv_at hl 5 rfl) ?_
              refine lv_iload_n hx hb d_Mo_number_122 rfl (lv_at hl 2 rfl) ?_
              refine wy_icmp_lt (tgt := 132) hx hb vv lo (by omega) (by omega) d_Mo_number_123 (by decide) (fun c_123 => ?_) (fun c_123 => ?_)
              · refine lv_aload_n hx hb d_Mo_number_132 rfl (lv_at hl 1 rfl) ?_
                refine lv_iload_n hx hb d_Mo_number_133 rfl (lv_at hl 4 rfl) ?_
                refine va_put (D := (dC, dI)) (ci := 5) (v := .int (nI pp)) (ty := .int) (C := "PatternTextModel") (T := F_Mo) (N := 24) hx hb hts iw_Mo t_Mo t_Mo_ok n_Mo hown hK hP hD hS 0 rfl rfl 4 (by decide) (hts _ kw_564) (fun _ h9 => h9) rfl (by decide +kernel) rfl rfl (Nat.le_of_ble_eq_true rfl) d_Mo_number_134 (fun H locs hP hD hS => ?_)
                have hP : va_P (dC, dI) ga_cl [(mm, .inr (5, [.int th, .ref u1, .int (nI n), .int (nI ee), .int (nI pp), .ref u5, .ref u6, .ref u7, .ref u8, .ref u9, .ref u10, .ref u11, .int (nI cn), .ref u13, .int (nI hc), .ref u15, .ref u16, .ref u17, .ref u18, .ref u19, .ref u20, .int (nI ns), .ref u22, .int (nI pz)])), (u1, .inl (cB, 120, .inl tb))] H := hP
                have hD : va_D A [(mm, .inr (5, [.int th, .ref u1, .int (nI n), .int (nI ee), .int (nI pp), .ref u5, .ref u6, .ref u7, .ref u8, .ref u9, .ref u10, .ref u11, .int (nI cn), .ref u13, .int (nI hc), .ref u15, .ref u16, .ref u17, .ref u18, .ref u19, .ref u20, .int (nI ns), .ref u22, .int (nI pz)])), (u1, .inl (cB, 120, .inl tb))] := hD
                refine lv_iconst (v := -1) hx hb d_Mo_number_137 (by decide) ?_
                rw [hQ]
                obtain ⟨he, hv, hw⟩ := mo_dg_eq hX
                have z9 : rd_num (by8 tb) n lo hi pp = false := by
                  by_cases h2 : pp + 2 < ee
                  · simp only [rd_num, he]; rcases hw h2 with h | h
                    · simp [h]; omega
                    · simp [h]; omega
                  · have hvv := hv (by omega)
                    simp only [rd_num, he, hvv]; by_cases hs : rd_sg (by8 tb) n pp = 48 <;> simp [hs] <;> first | omega | (simp [hs] at * <;> omega) | (simp_all <;> omega)
                have q9 : ((-1) : Int32) = cond (rd_num (by8 tb) n lo hi pp) (nI (rd_val (by8 tb) n pp)) (-1) := by rw [z9]; rfl
                have e9 : ([(mm, .inr (5, [.int th, .ref u1, .int (nI n), .int (nI (rd_end (by8 tb) n pp)), .int (cond (rd_num (by8 tb) n lo hi pp) wr (nI pp)), .ref u5, .ref u6, .ref u7, .ref u8, .ref u9, .ref u10, .ref u11, .int (nI cn), .ref u13, .int (nI hc), .ref u15, .ref u16, .ref u17, .ref u18, .ref u19, .ref u20, .int (nI ns), .ref u22, .int (nI pz)])), (u1, .inl (cB, 120, .inl tb))] : va_W) = [(mm, .inr (5, [.int th, .ref u1, .int (nI n), .int (nI ee), .int (nI pp), .ref u5, .ref u6, .ref u7, .ref u8, .ref u9, .ref u10, .ref u11, .int (nI cn), .ref u13, .int (nI hc), .ref u15, .ref u16, .ref u17, .ref u18, .ref u19, .ref u20, .int (nI ns), .ref u22, .int (nI pz)])), (u1, .inl (cB, 120, .inl tb))] := by rw [z9, he] <;> rfl
                exact W.iret (v := (-1)) hx hb hr (fun t ht hW => ⟨⟨_, (), rfl, q9, by rw [ht, e9]; exact hP, va_K.moved hW.alike hK, by rw [e9]; exact hD⟩, hS.F ht⟩) hS.2.2 d_Mo_number_138
              · refine lv_iload hx hb d_Mo_number_126 (lv_at hl 5 rfl) ?_
                refine lv_iload_n hx hb d_Mo_number_128 rfl (lv_at hl 3 rfl) ?_
                refine wy_icmp_le (tgt := 139) hx hb vv hi (by omega) (by omega) d_Mo_number_129 (by decide) (fun c_129 => ?_) (fun c_129 => ?_)
                · refine lv_iload hx hb d_Mo_number_139 (lv_at hl 5 rfl) ?_
                  rw [hQ]
                  obtain ⟨he, hv, hw⟩ := mo_dg_eq hX
                  have hvv : rd_val (by8 tb) n pp = vv := hv (by omega)
                  have z9 : rd_num (by8 tb) n lo hi pp = true := by simp only [rd_num, he, hvv]; by_cases hs : rd_sg (by8 tb) n pp = 48 <;> simp [hs] <;> first | omega | (simp [hs] at * <;> omega) | (simp_all <;> omega)
                  have q9 : (nI vv : Int32) = cond (rd_num (by8 tb) n lo hi pp) (nI (rd_val (by8 tb) n pp)) (-1) := by rw [z9, hvv]; rfl
                  have e9 : ([(mm, .inr (5, [.int th, .ref u1, .int (nI n), .int (nI (rd_end (by8 tb) n pp)), .int (cond (rd_num (by8 tb) n lo hi pp) wr (nI pp)), .ref u5, .ref u6, .ref u7, .ref u8, .ref u9, .ref u10, .ref u11, .int (nI cn), .ref u13, .int (nI hc), .ref u15, .ref u16, .ref u17, .ref u18, .ref u19, .ref u20, .int (nI ns), .ref u22, .int (nI pz)])), (u1, .inl (cB, 120, .inl tb))] : va_W) = [(mm, .inr (5, [.int th, .ref u1, .int (nI n), .int (nI ee), .int wr, .ref u5, .ref u6, .ref u7, .ref u8, .ref u9, .ref u10, .ref u11, .int (nI cn), .ref u13, .int (nI hc), .ref u15, .ref u16, .ref u17, .ref u18, .ref u19, .ref u20, .int (nI ns), .ref u22, .int (nI pz)])), (u1, .inl (cB, 120, .inl tb))] := by rw [z9, he] <;> rfl
                  exact W.iret (v := nI vv) hx hb hr (fun t ht hW => ⟨⟨_, (), rfl, q9, by rw [ht, e9]; exact hP, va_K.moved hW.alike hK, by rw [e9]; exact hD⟩, hS.F ht⟩) hS.2.2 d_Mo_number_141
                · refine lv_aload_n hx hb d_Mo_number_132 rfl (lv_at hl 1 rfl) ?_
                  refine lv_iload_n hx hb d_Mo_number_133 rfl (lv_at hl 4 rfl) ?_
                  refine va_put (D := (dC, dI)) (ci := 5) (v := .int (nI pp)) (ty := .int) (C := "PatternTextModel") (T := F_Mo) (N := 24) hx hb hts iw_Mo t_Mo t_Mo_ok n_Mo hown hK hP hD hS 0 rfl rfl 4 (by decide) (hts _ kw_564) (fun _ h9 => h9) rfl (by decide +kernel) rfl rfl (Nat.le_of_ble_eq_true rfl) d_Mo_number_134 (fun H locs hP hD hS => ?_)
                  have hP : va_P (dC, dI) ga_cl [(mm, .inr (5, [.int th, .ref u1, .int (nI n), .int (nI ee), .int (nI pp), .ref u5, .ref u6, .ref u7, .ref u8, .ref u9, .ref u10, .ref u11, .int (nI cn), .ref u13, .int (nI hc), .ref u15, .ref u16, .ref u17, .ref u18, .ref u19, .ref u20, .int (nI ns), .ref u22, .int (nI pz)])), (u1, .inl (cB, 120, .inl tb))] H := hP
                  have hD : va_D A [(mm, .inr (5, [.int th, .ref u1, .int (nI n), .int (nI ee), .int (nI pp), .ref u5, .ref u6, .ref u7, .ref u8, .ref u9, .ref u10, .ref u11, .int (nI cn), .ref u13, .int (nI hc), .ref u15, .ref u16, .ref u17, .ref u18, .ref u19, .ref u20, .int (nI ns), .ref u22, .int (nI pz)])), (u1, .inl (cB, 120, .inl tb))] := hD
                  refine lv_iconst (v := -1) hx hb d_Mo_number_137 (by decide) ?_
                  rw [hQ]
                  obtain ⟨he, hv, hw⟩ := mo_dg_eq hX
                  have z9 : rd_num (by8 tb) n lo hi pp = false := by
                    by_cases h2 : pp + 2 < ee
                    · simp only [rd_num, he]; rcases hw h2 with h | h
                      · simp [h]; omega
                      · simp [h]; omega
                    · have hvv := hv (by omega)
                      simp only [rd_num, he, hvv]; by_cases hs : rd_sg (by8 tb) n pp = 48 <;> simp [hs] <;> first | omega | (simp [hs] at * <;> omega) | (simp_all <;> omega)
                  have q9 : ((-1) : Int32) = cond (rd_num (by8 tb) n lo hi pp) (nI (rd_val (by8 tb) n pp)) (-1) := by rw [z9]; rfl
                  have e9 : ([(mm, .inr (5, [.int th, .ref u1, .int (nI n), .int (nI (rd_end (by8 tb) n pp)), .int (cond (rd_num (by8 tb) n lo hi pp) wr (nI pp)), .ref u5, .ref u6, .ref u7, .ref u8, .ref u9, .ref u10, .ref u11, .int (nI cn), .ref u13, .int (nI hc), .ref u15, .ref u16, .ref u17, .ref u18, .ref u19, .ref u20, .int (nI ns), .ref u22, .int (nI pz)])), (u1, .inl (cB, 120, .inl tb))] : va_W) = [(mm, .inr (5, [.int th, .ref u1, .int (nI n), .int (nI ee), .int (nI pp), .ref u5, .ref u6, .ref u7, .ref u8, .ref u9, .ref u10, .ref u11, .int (nI cn), .ref u13, .int (nI hc), .ref u15, .ref u16, .ref u17, .ref u18, .ref u19, .ref u20, .int (nI ns), .ref u22, .int (nI pz)])), (u1, .inl (cB, 120, .inl tb))] := by rw [z9, he] <;> rfl
                  exact W.iret (v := (-1)) hx hb hr (fun t ht hW => ⟨⟨_, (), rfl, q9, by rw [ht, e9]; exact hP, va_K.moved hW.alike hK, by rw [e9]; exact hD⟩, hS.F ht⟩) hS.2.2 d_Mo_number_138
        · refine lv_aload_n hx hb d_Mo_number_80 rfl (lv_at hl 0 rfl) ?_
          refine va_get (D := (dC, dI)) (ci := 5) (v := .int (nI ee)) (C := "PatternTextModel") (T := F_Mo) (N := 24) hx hb hts iw_Mo hown hK hP 0 rfl rfl 3 (by decide) (hts _ kw_563) (fun _ h9 => h9) rfl d_Mo_number_81 ?_
          refine lv_iload_n hx hb d_Mo_number_84 rfl (lv_at hl 3 rfl) ?_
          refine wy_isub hx hb ee pp (by omega) d_Mo_number_85 ?_
          refine lv_iconst (v := 1) hx hb d_Mo_number_86 (by decide) ?_
          refine wy_icmp_le (tgt := 94) hx hb (ee - pp) 1 (by omega) (by omega) d_Mo_number_87 (by decide) (fun c_87 => ?_) (fun c_87 => ?_)
          · refine lv_iconst (v := 0) hx hb d_Mo_number_94 (by decide) ?_
            refine lv_istore (lv' := [(5, .int 0), (0, .ref mm), (1, .int (nI lo)), (2, .int (nI hi)), (3, .int (nI pp)), (4, .int (nI vv))]) hx hb d_Mo_number_95 hl (by decide) rfl (fun ls hl => ?_)
            refine lv_aload_n hx hb d_Mo_number_97 rfl (lv_at hl 1 rfl) ?_
            refine va_get (D := (dC, dI)) (ci := 5) (v := .int (nI ee)) (C := "PatternTextModel") (T := F_Mo) (N := 24) hx hb hts iw_Mo hown hK hP 0 rfl rfl 3 (by decide) (hts _ kw_563) (fun _ h9 => h9) rfl d_Mo_number_98 ?_
            refine lv_iload_n hx hb d_Mo_number_101 rfl (lv_at hl 4 rfl) ?_
            refine wy_icmp_eq (tgt := 132) hx hb ee pp (by omega) (by omega) d_Mo_number_102 (by decide) (fun c_102 => ?_) (fun c_102 => ?_)
            · refine lv_aload_n hx hb d_Mo_number_132 rfl (lv_at hl 1 rfl) ?_
              refine lv_iload_n hx hb d_Mo_number_133 rfl (lv_at hl 4 rfl) ?_
              refine va_put (D := (dC, dI)) (ci := 5) (v := .int (nI pp)) (ty := .int) (C := "PatternTextModel") (T := F_Mo) (N := 24) hx hb hts iw_Mo t_Mo t_Mo_ok n_Mo hown hK hP hD hS 0 rfl rfl 4 (by decide) (hts _ kw_564) (fun _ h9 => h9) rfl (by decide +kernel) rfl rfl (Nat.le_of_ble_eq_true rfl) d_Mo_number_134 (fun H locs hP hD hS => ?_)
              have hP : va_P (dC, dI) ga_cl [(mm, .inr (5, [.int th, .ref u1, .int (nI n), .int (nI ee), .int (nI pp), .ref u5, .ref u6, .ref u7, .ref u8, .ref u9, .ref u10, .ref u11, .int (nI cn), .ref u13, .int (nI hc), .ref u15, .ref u16, .ref u17, .ref u18, .ref u19, .ref u20, .int (nI ns), .ref u22, .int (nI pz)])), (u1, .inl (cB, 120, .inl tb))] H := hP
              have hD : va_D A [(mm, .inr (5, [.int th, .ref u1, .int (nI n), .int (nI ee), .int (nI pp), .ref u5, .ref u6, .ref u7, .ref u8, .ref u9, .ref u10, .ref u11, .int (nI cn), .ref u13, .int (nI hc), .ref u15, .ref u16, .ref u17, .ref u18, .ref u19, .ref u20, .int (nI ns), .ref u22, .int (nI pz)])), (u1, .inl (cB, 120, .inl tb))] := hD
              refine lv_iconst (v := -1) hx hb d_Mo_number_137 (by decide) ?_
              rw [hQ]
              obtain ⟨he, hv, hw⟩ := mo_dg_eq hX
              have z9 : rd_num (by8 tb) n lo hi pp = false := by
                by_cases h2 : pp + 2 < ee
                · simp only [rd_num, he]; rcases hw h2 with h | h
                  · simp [h]; omega
                  · simp [h]; omega
                · have hvv := hv (by omega)
                  simp only [rd_num, he, hvv]; by_cases hs : rd_sg (by8 tb) n pp = 48 <;> simp [hs] <;> first | omega | (simp [hs] at * <;> omega) | (simp_all <;> omega)
              have q9 : ((-1) : Int32) = cond (rd_num (by8 tb) n lo hi pp) (nI (rd_val (by8 tb) n pp)) (-1) := by rw [z9]; rfl
              have e9 : ([(mm, .inr (5, [.int th, .ref u1, .int (nI n), .int (nI (rd_end (by8 tb) n pp)), .int (cond (rd_num (by8 tb) n lo hi pp) wr (nI pp)), .ref u5, .ref u6, .ref u7, .ref u8, .ref u9, .ref u10, .ref u11, .int (nI cn), .ref u13, .int (nI hc), .ref u15, .ref u16, .ref u17, .ref u18, .ref u19, .ref u20, .int (nI ns), .ref u22, .int (nI pz)])), (u1, .inl (cB, 120, .inl tb))] : va_W) = [(mm, .inr (5, [.int th, .ref u1, .int (nI n), .int (nI ee), .int (nI pp), .ref u5, .ref u6, .ref u7, .ref u8, .ref u9, .ref u10, .ref u11, .int (nI cn), .ref u13, .int (nI hc), .ref u15, .ref u16, .ref u17, .ref u18, .ref u19, .ref u20, .int (nI ns), .ref u22, .int (nI pz)])), (u1, .inl (cB, 120, .inl tb))] := by rw [z9, he] <;> rfl
              exact W.iret (v := (-1)) hx hb hr (fun t ht hW => ⟨⟨_, (), rfl, q9, by rw [ht, e9]; exact hP, va_K.moved hW.alike hK, by rw [e9]; exact hD⟩, hS.F ht⟩) hS.2.2 d_Mo_number_138
            · refine lv_iload hx hb d_Mo_number_105 (lv_at hl 0 rfl) ?_
              refine lv_if_ne (tgt := 132) hx hb d_Mo_number_107 (by decide) (fun z9 => absurd z9 (by decide)) (fun _ => ?_)
              refine lv_aload_n hx hb d_Mo_number_110 rfl (lv_at hl 1 rfl) ?_
              refine va_get (D := (dC, dI)) (ci := 5) (v := .int (nI ee)) (C := "PatternTextModel") (T := F_Mo) (N := 24) hx hb hts iw_Mo hown hK hP 0 rfl rfl 3 (by decide) (hts _ kw_563) (fun _ h9 => h9) rfl d_Mo_number_111 ?_
              refine lv_iload_n hx hb d_Mo_number_114 rfl (lv_at hl 4 rfl) ?_
              refine wy_isub hx hb ee pp (by omega) d_Mo_number_115 ?_
              refine lv_iconst (v := 2) hx hb d_Mo_number_116 (by decide) ?_
              refine wy_icmp_gt (tgt := 132) hx hb (ee - pp) 2 (by omega) (by omega) d_Mo_number_117 (by decide) (fun c_117 => ?_) (fun c_117 => ?_)
              · refine lv_aload_n hx hb d_Mo_number_132 rfl (lv_at hl 1 rfl) ?_
                refine lv_iload_n hx hb d_Mo_number_133 rfl (lv_at hl 4 rfl) ?_
                refine va_put (D := (dC, dI)) (ci := 5) (v := .int (nI pp)) (ty := .int) (C := "PatternTextModel") (T := F_Mo) (N := 24) hx hb hts iw_Mo t_Mo t_Mo_ok n_Mo hown hK hP hD hS 0 rfl rfl 4 (by decide) (hts _ kw_564) (fun _ h9 => h9) rfl (by decide +kernel) rfl rfl (Nat.le_of_ble_eq_true rfl) d_Mo_number_134 (fun H locs hP hD hS => ?_)
                have hP : va_P (dC, dI) ga_cl [(mm, .inr (5, [.int th, .ref u1, .int (nI n), .int (nI ee), .int (nI pp), .ref u5, .ref u6, .ref u7, .ref u8, .ref u9, .ref u10, .ref u11, .int (nI cn), .ref u13, .int (nI hc), .ref u15, .ref u16, .ref u17, .ref u18, .ref u19, .ref u20, .int (nI ns), .ref u22, .int (nI pz)])), (u1, .inl (cB, 120, .inl tb))] H := hP
                have hD : va_D A [(mm, .inr (5, [.int th, .ref u1, .int (nI n), .int (nI ee), .int (nI pp), .ref u5, .ref u6, .ref u7, .ref u8, .ref u9, .ref u10, .ref u11, .int (nI cn), .ref u13, .int (nI hc), .ref u15, .ref u16, .ref u17, .ref u18, .ref u19, .ref u20, .int (nI ns), .ref u22, .int (nI pz)])), (u1, .inl (cB, 120, .inl tb))] := hD
                refine lv_iconst (v := -1) hx hb d_Mo_number_137 (by decide) ?_
                rw [hQ]
                obtain ⟨he, hv, hw⟩ := mo_dg_eq hX
                have z9 : rd_num (by8 tb) n lo hi pp = false := by
                  by_cases h2 : pp + 2 < ee
                  · simp only [rd_num, he]; rcases hw h2 with h | h
                    · simp [h]; omega
                    · simp [h]; omega
                  · have hvv := hv (by omega)
                    simp only [rd_num, he, hvv]; by_cases hs : rd_sg (by8 tb) n pp = 48 <;> simp [hs] <;> first | omega | (simp [hs] at * <;> omega) | (simp_all <;> omega)
                have q9 : ((-1) : Int32) = cond (rd_num (by8 tb) n lo hi pp) (nI (rd_val (by8 tb) n pp)) (-1) := by rw [z9]; rfl
                have e9 : ([(mm, .inr (5, [.int th, .ref u1, .int (nI n), .int (nI (rd_end (by8 tb) n pp)), .int (cond (rd_num (by8 tb) n lo hi pp) wr (nI pp)), .ref u5, .ref u6, .ref u7, .ref u8, .ref u9, .ref u10, .ref u11, .int (nI cn), .ref u13, .int (nI hc), .ref u15, .ref u16, .ref u17, .ref u18, .ref u19, .ref u20, .int (nI ns), .ref u22, .int (nI pz)])), (u1, .inl (cB, 120, .inl tb))] : va_W) = [(mm, .inr (5, [.int th, .ref u1, .int (nI n), .int (nI ee), .int (nI pp), .ref u5, .ref u6, .ref u7, .ref u8, .ref u9, .ref u10, .ref u11, .int (nI cn), .ref u13, .int (nI hc), .ref u15, .ref u16, .ref u17, .ref u18, .ref u19, .ref u20, .int (nI ns), .ref u22, .int (nI pz)])), (u1, .inl (cB, 120, .inl tb))] := by rw [z9, he] <;> rfl
                exact W.iret (v := (-1)) hx hb hr (fun t ht hW => ⟨⟨_, (), rfl, q9, by rw [ht, e9]; exact hP, va_K.moved hW.alike hK, by rw [e9]; exact hD⟩, hS.F ht⟩) hS.2.2 d_Mo_number_138
              · refine lv_iload hx hb d_Mo_number_120 (lv_at hl 5 rfl) ?_
                refine lv_iload_n hx hb d_Mo_number_122 rfl (lv_at hl 2 rfl) ?_
                refine wy_icmp_lt (tgt := 132) hx hb vv lo (by omega) (by omega) d_Mo_number_123 (by decide) (fun c_123 => ?_) (fun c_123 => ?_)
                · refine lv_aload_n hx hb d_Mo_number_132 rfl (lv_at hl 1 rfl) ?_
                  refine lv_iload_n hx hb d_Mo_number_133 rfl (lv_at hl 4 rfl) ?_
                  refine va_put (D := (dC, dI)) (ci := 5) (v := .int (nI pp)) (ty := .int) (C := "PatternTextModel") (T := F_Mo) (N := 24) hx hb hts iw_Mo t_Mo t_Mo_ok n_Mo hown hK hP hD hS 0 rfl rfl 4 (by decide) (hts _ kw_564) (fun _ h9 => h9) rfl (by decide +kernel) rfl rfl (Nat.le_of_ble_eq_true rfl) d_Mo_number_134 (fun H locs hP hD hS => ?_)
                  have hP : va_P (dC, dI) ga_cl [(mm, .inr (5, [.int th, .ref u1, .int (nI n), .int (nI ee), .int (nI pp), .ref u5, .ref u6, .ref u7, .ref u8, .ref u9, .ref u10, .ref u11, .int (nI cn), .ref u13, .int (nI hc), .ref u15, .ref u16, .ref u17, .ref u18, .ref u19, .ref u20, .int (nI ns), .ref u22, .int (nI pz)])), (u1, .inl (cB, 120, .inl tb))] H := hP
                  have hD : va_D A [(mm, .inr (5, [.int th, .ref u1, .int (nI n), .int (nI ee), .int (nI pp), .ref u5, .ref u6, .ref u7, .ref u8, .ref u9, .ref u10, .ref u11, .int (nI cn), .ref u13, .int (nI hc), .ref u15, .ref u16, .ref u17, .ref u18, .ref u19, .ref u20, .int (nI ns), .ref u22, .int (nI pz)])), (u1, .inl (cB, 120, .inl tb))] := hD
                  refine lv_iconst (v := -1) hx hb d_Mo_number_137 (by decide) ?_
                  rw [hQ]
                  obtain ⟨he, hv, hw⟩ := mo_dg_eq hX
                  have z9 : rd_num (by8 tb) n lo hi pp = false := by
                    by_cases h2 : pp + 2 < ee
                    · simp only [rd_num, he]; rcases hw h2 with h | h
                      · simp [h]; omega
                      · simp [h]; omega
                    · have hvv := hv (by omega)
                      simp only [rd_num, he, hvv]; by_cases hs : rd_sg (by8 tb) n pp = 48 <;> simp [hs] <;> first | omega | (simp [hs] at * <;> omega) | (simp_all <;> omega)
                  have q9 : ((-1) : Int32) = cond (rd_num (by8 tb) n lo hi pp) (nI (rd_val (by8 tb) n pp)) (-1) := by rw [z9]; rfl
                  have e9 : ([(mm, .inr (5, [.int th, .ref u1, .int (nI n), .int (nI (rd_end (by8 tb) n pp)), .int (cond (rd_num (by8 tb) n lo hi pp) wr (nI pp)), .ref u5, .ref u6, .ref u7, .ref u8, .ref u9, .ref u10, .ref u11, .int (nI cn), .ref u13, .int (nI hc), .ref u15, .ref u16, .ref u17, .ref u18, .ref u19, .ref u20, .int (nI ns), .ref u22, .int (nI pz)])), (u1, .inl (cB, 120, .inl tb))] : va_W) = [(mm, .inr (5, [.int th, .ref u1, .int (nI n), .int (nI ee), .int (nI pp), .ref u5, .ref u6, .ref u7, .ref u8, .ref u9, .ref u10, .ref u11, .int (nI cn), .ref u13, .int (nI hc), .ref u15, .ref u16, .ref u17, .ref u18, .ref u19, .ref u20, .int (nI ns), .ref u22, .int (nI pz)])), (u1, .inl (cB, 120, .inl tb))] := by rw [z9, he] <;> rfl
                  exact W.iret (v := (-1)) hx hb hr (fun t ht hW => ⟨⟨_, (), rfl, q9, by rw [ht, e9]; exact hP, va_K.moved hW.alike hK, by rw [e9]; exact hD⟩, hS.F ht⟩) hS.2.2 d_Mo_number_138
                · refine lv_iload hx hb d_Mo_number_126 (lv_at hl 5 rfl) ?_
                  refine lv_iload_n hx hb d_Mo_number_128 rfl (lv_at hl 3 rfl) ?_
                  refine wy_icmp_le (tgt := 139) hx hb vv hi (by omega) (by omega) d_Mo_number_129 (by decide) (fun c_129 => ?_) (fun c_129 => ?_)
                  · refine lv_iload hx hb d_Mo_number_139 (lv_at hl 5 rfl) ?_
                    rw [hQ]
                    obtain ⟨he, hv, hw⟩ := mo_dg_eq hX
                    have hvv : rd_val (by8 tb) n pp = vv := hv (by omega)
                    have z9 : rd_num (by8 tb) n lo hi pp = true := by simp only [rd_num, he, hvv]; by_cases hs : rd_sg (by8 tb) n pp = 48 <;> simp [hs] <;> first | omega | (simp [hs] at * <;> omega) | (simp_all <;> omega)
                    have q9 : (nI vv : Int32) = cond (rd_num (by8 tb) n lo hi pp) (nI (rd_val (by8 tb) n pp)) (-1) := by rw [z9, hvv]; rfl
                    have e9 : ([(mm, .inr (5, [.int th, .ref u1, .int (nI n), .int (nI (rd_end (by8 tb) n pp)), .int (cond (rd_num (by8 tb) n lo hi pp) wr (nI pp)), .ref u5, .ref u6, .ref u7, .ref u8, .ref u9, .ref u10, .ref u11, .int (nI cn), .ref u13, .int (nI hc), .ref u15, .ref u16, .ref u17, .ref u18, .ref u19, .ref u20, .int (nI ns), .ref u22, .int (nI pz)])), (u1, .inl (cB, 120, .inl tb))] : va_W) = [(mm, .inr (5, [.int th, .ref u1, .int (nI n), .int (nI ee), .int wr, .ref u5, .ref u6, .ref u7, .ref u8, .ref u9, .ref u10, .ref u11, .int (nI cn), .ref u13, .int (nI hc), .ref u15, .ref u16, .ref u17, .ref u18, .ref u19, .ref u20, .int (nI ns), .ref u22, .int (nI pz)])), (u1, .inl (cB, 120, .inl tb))] := by rw [z9, he] <;> rfl
                    exact W.iret (v := nI vv) hx hb hr (fun t ht hW => ⟨⟨_, (), rfl, q9, by rw [ht, e9]; exact hP, va_K.moved hW.alike hK, by rw [e9]; exact hD⟩, hS.F ht⟩) hS.2.2 d_Mo_number_141
                  · refine lv_aload_n hx hb d_Mo_number_132 rfl (lv_at hl 1 rfl) ?_
                    refine lv_iload_n hx hb d_Mo_number_133 rfl (lv_at hl 4 rfl) ?_
                    refine va_put (D := (dC, dI)) (ci := 5) (v := .int (nI pp)) (ty := .int) (C := "PatternTextModel") (T := F_Mo) (N := 24) hx hb hts iw_Mo t_Mo t_Mo_ok n_Mo hown hK hP hD hS 0 rfl rfl 4 (by decide) (hts _ kw_564) (fun _ h9 => h9) rfl (by decide +kernel) rfl rfl (Nat.le_of_ble_eq_true rfl) d_Mo_number_134 (fun H locs hP hD hS => ?_)
                    have hP : va_P (dC, dI) ga_cl [(mm, .inr (5, [.int th, .ref u1, .int (nI n), .int (nI ee), .int (nI pp), .ref u5, .ref u6, .ref u7, .ref u8, .ref u9, .ref u10, .ref u11, .int (nI cn), .ref u13, .int (nI hc), .ref u15, .ref u16, .ref u17, .ref u18, .ref u19, .ref u20, .int (nI ns), .ref u22, .int (nI pz)])), (u1, .inl (cB, 120, .inl tb))] H := hP
                    have hD : va_D A [(mm, .inr (5, [.int th, .ref u1, .int (nI n), .int (nI ee), .int (nI pp), .ref u5, .ref u6, .ref u7, .ref u8, .ref u9, .ref u10, .ref u11, .int (nI cn), .ref u13, .int (nI hc), .ref u15, .ref u16, .ref u17, .ref u18, .ref u19, .ref u20, .int (nI ns), .ref u22, .int (nI pz)])), (u1, .inl (cB, 120, .inl tb))] := hD
                    refine lv_iconst (v := -1) hx hb d_Mo_number_137 (by decide) ?_
                    rw [hQ]
                    obtain ⟨he, hv, hw⟩ := mo_dg_eq hX
                    have z9 : rd_num (by8 tb) n lo hi pp = false := by
                      by_cases h2 : pp + 2 < ee
                      · simp only [rd_num, he]; rcases hw h2 with h | h
                        · simp [h]; omega
                        · simp [h]; omega
                      · have hvv := hv (by omega)
                        simp only [rd_num, he, hvv]; by_cases hs : rd_sg (by8 tb) n pp = 48 <;> simp [hs] <;> first | omega | (simp [hs] at * <;> omega) | (simp_all <;> omega)
                    have q9 : ((-1) : Int32) = cond (rd_num (by8 tb) n lo hi pp) (nI (rd_val (by8 tb) n pp)) (-1) := by rw [z9]; rfl
                    have e9 : ([(mm, .inr (5, [.int th, .ref u1, .int (nI n), .int (nI (rd_end (by8 tb) n pp)), .int (cond (rd_num (by8 tb) n lo hi pp) wr (nI pp)), .ref u5, .ref u6, .ref u7, .ref u8, .ref u9, .ref u10, .ref u11, .int (nI cn), .ref u13, .int (nI hc), .ref u15, .ref u16, .ref u17, .ref u18, .ref u19, .ref u20, .int (nI ns), .ref u22, .int (nI pz)])), (u1, .inl (cB, 120, .inl tb))] : va_W) = [(mm, .inr (5, [.int th, .ref u1, .int (nI n), .int (nI ee), .int (nI pp), .ref u5, .ref u6, .ref u7, .ref u8, .ref u9, .ref u10, .ref u11, .int (nI cn), .ref u13, .int (nI hc), .ref u15, .ref u16, .ref u17, .ref u18, .ref u19, .ref u20, .int (nI ns), .ref u22, .int (nI pz)])), (u1, .inl (cB, 120, .inl tb))] := by rw [z9, he] <;> rfl
                    exact W.iret (v := (-1)) hx hb hr (fun t ht hW => ⟨⟨_, (), rfl, q9, by rw [ht, e9]; exact hP, va_K.moved hW.alike hK, by rw [e9]; exact hD⟩, hS.F ht⟩) hS.2.2 d_Mo_number_138
          · refine lv_iconst (v := 1) hx hb d_Mo_number_90 (by decide) ?_
            refine lv_goto (tgt := 95) hx hb d_Mo_number_91 (by decide) ?_
            refine lv_istore (lv' := [(5, .int 1), (0, .ref mm), (1, .int (nI lo)), (2, .int (nI hi)), (3, .int (nI pp)), (4, .int (nI vv))]) hx hb d_Mo_number_95 hl (by decide) rfl (fun ls hl => ?_)
            refine lv_aload_n hx hb d_Mo_number_97 rfl (lv_at hl 1 rfl) ?_
            refine va_get (D := (dC, dI)) (ci := 5) (v := .int (nI ee)) (C := "PatternTextModel") (T := F_Mo) (N := 24) hx hb hts iw_Mo hown hK hP 0 rfl rfl 3 (by decide) (hts _ kw_563) (fun _ h9 => h9) rfl d_Mo_number_98 ?_
            refine lv_iload_n hx hb d_Mo_number_101 rfl (lv_at hl 4 rfl) ?_
            refine wy_icmp_eq (tgt := 132) hx hb ee pp (by omega) (by omega) d_Mo_number_102 (by decide) (fun c_102 => ?_) (fun c_102 => ?_)
            · refine lv_aload_n hx hb d_Mo_number_132 rfl (lv_at hl 1 rfl) ?_
              refine lv_iload_n hx hb d_Mo_number_133 rfl (lv_at hl 4 rfl) ?_
              refine va_put (D := (dC, dI)) (ci := 5) (v := .int (nI pp)) (ty := .int) (C := "PatternTextModel") (T := F_Mo) (N := 24) hx hb hts iw_Mo t_Mo t_Mo_ok n_Mo hown hK hP hD hS 0 rfl rfl 4 (by decide) (hts _ kw_564) (fun _ h9 => h9) rfl (by decide +kernel) rfl rfl (Nat.le_of_ble_eq_true rfl) d_Mo_number_134 (fun H locs hP hD hS => ?_)
              have hP : va_P (dC, dI) ga_cl [(mm, .inr (5, [.int th, .ref u1, .int (nI n), .int (nI ee), .int (nI pp), .ref u5, .ref u6, .ref u7, .ref u8, .ref u9, .ref u10, .ref u11, .int (nI cn), .ref u13, .int (nI hc), .ref u15, .ref u16, .ref u17, .ref u18, .ref u19, .ref u20, .int (nI ns), .ref u22, .int (nI pz)])), (u1, .inl (cB, 120, .inl tb))] H := hP
              have hD : va_D A [(mm, .inr (5, [.int th, .ref u1, .int (nI n), .int (nI ee), .int (nI pp), .ref u5, .ref u6, .ref u7, .ref u8, .ref u9, .ref u10, .ref u11, .int (nI cn), .ref u13, .int (nI hc), .ref u15, .ref u16, .ref u17, .ref u18, .ref u19, .ref u20, .int (nI ns), .ref u22, .int (nI pz)])), (u1, .inl (cB, 120, .inl tb))] := hD
              refine lv_iconst (v := -1) hx hb d_Mo_number_137 (by decide) ?_
              rw [hQ]
              obtain ⟨he, hv, hw⟩ := mo_dg_eq hX
              have z9 : rd_num (by8 tb) n lo hi pp = false := by
                by_cases h2 : pp + 2 < ee
                · simp only [rd_num, he]; rcases hw h2 with h | h
                  · simp [h]; omega
                  · simp [h]; omega
                · have hvv := hv (by omega)
                  simp only [rd_num, he, hvv]; by_cases hs : rd_sg (by8 tb) n pp = 48 <;> simp [hs] <;> first | omega | (simp [hs] at * <;> omega) | (simp_all <;> omega)
              have q9 : ((-1) : Int32) = cond (rd_num (by8 tb) n lo hi pp) (nI (rd_val (by8 tb) n pp)) (-1) := by rw [z9]; rfl
              have e9 : ([(mm, .inr (5, [.int th, .ref u1, .int (nI n), .int (nI (rd_end (by8 tb) n pp)), .int (cond (rd_num (by8 tb) n lo hi pp) wr (nI pp)), .ref u5, .ref u6, .ref u7, .ref u8, .ref u9, .ref u10, .ref u11, .int (nI cn), .ref u13, .int (nI hc), .ref u15, .ref u16, .ref u17, .ref u18, .ref u19, .ref u20, .int (nI ns), .ref u22, .int (nI pz)])), (u1, .inl (cB, 120, .inl tb))] : va_W) = [(mm, .inr (5, [.int th, .ref u1, .int (nI n), .int (nI ee), .int (nI pp), .ref u5, .ref u6, .ref u7, .ref u8, .ref u9, .ref u10, .ref u11, .int (nI cn), .ref u13, .int (nI hc), .ref u15, .ref u16, .ref u17, .ref u18, .ref u19, .ref u20, .int (nI ns), .ref u22, .int (nI pz)])), (u1, .inl (cB, 120, .inl tb))] := by rw [z9, he] <;> rfl
              exact W.iret (v := (-1)) hx hb hr (fun t ht hW => ⟨⟨_, (), rfl, q9, by rw [ht, e9]; exact hP, va_K.moved hW.alike hK, by rw [e9]; exact hD⟩, hS.F ht⟩) hS.2.2 d_Mo_number_138
            · refine lv_iload hx hb d_Mo_number_105 (lv_at hl 0 rfl) ?_
              refine lv_if_ne (tgt := 132) hx hb d_Mo_number_107 (by decide) (fun _ => ?_) (fun z9 => absurd z9 (by decide))
              refine lv_aload_n hx hb d_Mo_number_132 rfl (lv_at hl 1 rfl) ?_
              refine lv_iload_n hx hb d_Mo_number_133 rfl (lv_at hl 4 rfl) ?_
              refine va_put (D := (dC, dI)) (ci := 5) (v := .int (nI pp)) (ty := .int) (C := "PatternTextModel") (T := F_Mo) (N := 24) hx hb hts iw_Mo t_Mo t_Mo_ok n_Mo hown hK hP hD hS 0 rfl rfl 4 (by decide) (hts _ kw_564) (fun _ h9 => h9) rfl (by decide +kernel) rfl rfl (Nat.le_of_ble_eq_true rfl) d_Mo_number_134 (fun H locs hP hD hS => ?_)
              have hP : va_P (dC, dI) ga_cl [(mm, .inr (5, [.int th, .ref u1, .int (nI n), .int (nI ee), .int (nI pp), .ref u5, .ref u6, .ref u7, .ref u8, .ref u9, .ref u10, .ref u11, .int (nI cn), .ref u13, .int (nI hc), .ref u15, .ref u16, .ref u17, .ref u18, .ref u19, .ref u20, .int (nI ns), .ref u22, .int (nI pz)])), (u1, .inl (cB, 120, .inl tb))] H := hP
              have hD : va_D A [(mm, .inr (5, [.int th, .ref u1, .int (nI n), .int (nI ee), .int (nI pp), .ref u5, .ref u6, .ref u7, .ref u8, .ref u9, .ref u10, .ref u11, .int (nI cn), .ref u13, .int (nI hc), .ref u15, .ref u16, .ref u17, .ref u18, .ref u19, .ref u20, .int (nI ns), .ref u22, .int (nI pz)])), (u1, .inl (cB, 120, .inl tb))] := hD
              refine lv_iconst (v := -1) hx hb d_Mo_number_137 (by decide) ?_
              rw [hQ]
              obtain ⟨he, hv, hw⟩ := mo_dg_eq hX
              have z9 : rd_num (by8 tb) n lo hi pp = false := by
                by_cases h2 : pp + 2 < ee
                · simp only [rd_num, he]; rcases hw h2 with h | h
                  · simp [h]; omega
                  · simp [h]; omega
                · have hvv := hv (by omega)
                  simp only [rd_num, he, hvv]; by_cases hs : rd_sg (by8 tb) n pp = 48 <;> simp [hs] <;> first | omega | (simp [hs] at * <;> omega) | (simp_all <;> omega)
              have q9 : ((-1) : Int32) = cond (rd_num (by8 tb) n lo hi pp) (nI (rd_val (by8 tb) n pp)) (-1) := by rw [z9]; rfl
              have e9 : ([(mm, .inr (5, [.int th, .ref u1, .int (nI n), .int (nI (rd_end (by8 tb) n pp)), .int (cond (rd_num (by8 tb) n lo hi pp) wr (nI pp)), .ref u5, .ref u6, .ref u7, .ref u8, .ref u9, .ref u10, .ref u11, .int (nI cn), .ref u13, .int (nI hc), .ref u15, .ref u16, .ref u17, .ref u18, .ref u19, .ref u20, .int (nI ns), .ref u22, .int (nI pz)])), (u1, .inl (cB, 120, .inl tb))] : va_W) = [(mm, .inr (5, [.int th, .ref u1, .int (nI n), .int (nI ee), .int (nI pp), .ref u5, .ref u6, .ref u7, .ref u8, .ref u9, .ref u10, .ref u11, .int (nI cn), .ref u13, .int (nI hc), .ref u15, .ref u16, .ref u17, .ref u18, .ref u19, .ref u20, .int (nI ns), .ref u22, .int (nI pz)])), (u1, .inl (cB, 120, .inl tb))] := by rw [z9, he] <;> rfl
              exact W.iret (v := (-1)) hx hb hr (fun t ht hW => ⟨⟨_, (), rfl, q9, by rw [ht, e9]; exact hP, va_K.moved hW.alike hK, by rw [e9]; exact hD⟩, hS.F ht⟩) hS.2.2 d_Mo_number_138
      · obtain ⟨hd1, hd2⟩ := rd_dv_eq c_19
        have hel := rd_dig_lt c_19
        refine lv_aload_n hx hb d_Mo_number_22 rfl (lv_at hl 0 rfl) ?_
        refine va_get (D := (dC, dI)) (ci := 5) (v := .int (nI ee)) (C := "PatternTextModel") (T := F_Mo) (N := 24) hx hb hts iw_Mo hown hK hP 0 rfl rfl 3 (by decide) (hts _ kw_563) (fun _ h9 => h9) rfl d_Mo_number_23 ?_
        refine lv_iload_n hx hb d_Mo_number_26 rfl (lv_at hl 3 rfl) ?_
        refine wy_isub hx hb ee pp (by omega) d_Mo_number_27 ?_
        refine lv_iconst (v := 2) hx hb d_Mo_number_28 (by decide) ?_
        refine wy_icmp_le (tgt := 38) hx hb (ee - pp) 2 (by omega) (by omega) d_Mo_number_29 (by decide) (fun c_29 => ?_) (fun c_29 => ?_)
        · refine lv_bipush (v := 10) hx hb d_Mo_number_38 (by decide) ?_
          refine lv_iload hx hb d_Mo_number_40 (lv_at hl 4 rfl) ?_
          refine wy_imul hx hb 10 vv d_Mo_number_42 ?_
          refine lv_aload_n hx hb d_Mo_number_43 rfl (lv_at hl 0 rfl) ?_
          refine lv_aload_n hx hb d_Mo_number_44 rfl (lv_at hl 0 rfl) ?_
          refine va_get (D := (dC, dI)) (ci := 5) (v := .int (nI ee)) (C := "PatternTextModel") (T := F_Mo) (N := 24) hx hb hts iw_Mo hown hK hP 0 rfl rfl 3 (by decide) (hts _ kw_563) (fun _ h9 => h9) rfl d_Mo_number_45 ?_
          refine vp_callSi (va_runV (As := [.int (nI ee)]) (rest := [.int (nI (10 * vv))]) ⟨hx, hb, hml, hown, hts⟩ (c_Mo_look l dC dI mm u1 u5 u6 u7 u8 u9 u10 u11 u13 u15 u16 u17 u18 u19 u20 u22 th n (nI ee) wr cn hc ns pz cB tb ee (by omega) (by omega)) (cwV 1 hts (ga_V kw_658 kw_660 kw_19 kw_38 (ga_in kw_661)) rfl rfl rfl (by decide +kernel) ⟨Nat.le_of_ble_eq_true rfl, Nat.le_of_ble_eq_true rfl⟩) (wy_preV 0 (hP.sub (ws' := [(mm, .inr (5, [.int th, .ref u1, .int (nI n), .int (nI ee), .int wr, .ref u5, .ref u6, .ref u7, .ref u8, .ref u9, .ref u10, .ref u11, .int (nI cn), .ref u13, .int (nI hc), .ref u15, .ref u16, .ref u17, .ref u18, .ref u19, .ref u20, .int (nI ns), .ref u22, .int (nI pz)])), (u1, .inl (cB, 120, .inl tb))]) [0, 1] rfl) (hK.sub (tys' := [(cB, .byte)]) [0] rfl) hN (ci := 5) rfl rfl rfl) rfl rfl hl.1 rfl (lv_room (Nat.le_of_ble_eq_true rfl)) d_Mo_number_48 ⟨Nat.le_of_ble_eq_true rfl, Nat.le_of_ble_eq_true rfl⟩).run (fun r_48 h_48 => ?_)
          subst h_48
          refine wy_cvi (y := nI (rd_dv (rd_sg (by8 tb) n ee) + 48)) (hd1) ?_
          refine wy_iadd hx hb (10 * vv) (rd_dv (rd_sg (by8 tb) n ee) + 48) d_Mo_number_51 ?_
          refine lv_bipush (v := 48) hx hb d_Mo_number_52 (by decide) ?_
          refine wy_isub hx hb ((10 * vv) + (rd_dv (rd_sg (by8 tb) n ee) + 48)) 48 (by omega) d_Mo_number_54 ?_
          refine wy_cvi (y := nI (10 * vv + rd_dv (rd_sg (by8 tb) n ee))) (by congr 1 <;> omega) ?_
          refine lv_istore (lv' := [(4, .int (nI (10 * vv + rd_dv (rd_sg (by8 tb) n ee)))), (0, .ref mm), (1, .int (nI lo)), (2, .int (nI hi)), (3, .int (nI pp))]) hx hb d_Mo_number_55 hl (by decide) rfl (fun ls hl => ?_)
          refine lv_aload_n hx hb d_Mo_number_57 rfl (lv_at hl 1 rfl) ?_
          refine lv_dup hx hb d_Mo_number_58 rfl ?_
          refine va_get (D := (dC, dI)) (ci := 5) (v := .int (nI ee)) (C := "PatternTextModel") (T := F_Mo) (N := 24) hx hb hts iw_Mo hown hK hP 0 rfl rfl 3 (by decide) (hts _ kw_563) (fun _ h9 => h9) rfl d_Mo_number_59 ?_
          refine lv_iconst (v := 1) hx hb d_Mo_number_62 (by decide) ?_
          refine wy_iadd hx hb ee 1 d_Mo_number_63 ?_
          refine va_put (D := (dC, dI)) (ci := 5) (v := .int (nI (ee + 1))) (ty := .int) (C := "PatternTextModel") (T := F_Mo) (N := 24) hx hb hts iw_Mo t_Mo t_Mo_ok n_Mo hown hK hP hD hS 0 rfl rfl 3 (by decide) (hts _ kw_563) (fun _ h9 => h9) rfl (by decide +kernel) rfl rfl (Nat.le_of_ble_eq_true rfl) d_Mo_number_64 (fun H locs hP hD hS => ?_)
          have hP : va_P (dC, dI) ga_cl [(mm, .inr (5, [.int th, .ref u1, .int (nI n), .int (nI (ee + 1)), .int wr, .ref u5, .ref u6, .ref u7, .ref u8, .ref u9, .ref u10, .ref u11, .int (nI cn), .ref u13, .int (nI hc), .ref u15, .ref u16, .ref u17, .ref u18, .ref u19, .ref u20, .int (nI ns), .ref u22, .int (nI pz)])), (u1, .inl (cB, 120, .inl tb))] H := hP
          have hD : va_D A [(mm, .inr (5, [.int th, .ref u1, .int (nI n), .int (nI (ee + 1)), .int wr, .ref u5, .ref u6, .ref u7, .ref u8, .ref u9, .ref u10, .ref u11, .int (nI cn), .ref u13, .int (nI hc), .ref u15, .ref u16, .ref u17, .ref u18, .ref u19, .ref u20, .int (nI ns), .ref u22, .int (nI pz)])), (u1, .inl (cB, 120, .inl tb))] := hD
          refine lv_goto (tgt := 8) hx hb d_Mo_number_67 (by decide) ?_
          exact ih_8 (ee + 1) (10 * vv + rd_dv (rd_sg (by8 tb) n ee)) (by omega) (by omega) (by omega) (by omega) (by omega) (by omega) (by rw [← hR, mo_dg_go c_19]; first | rw [if_pos c_29] | rw [if_neg (by omega)]) (by omega) H locs hP hD hS ls (lv_sub hl [1, 2, 3, 4, 0] rfl)
        · refine lv_sipush (v := 999) hx hb d_Mo_number_32 (by decide) ?_
          refine lv_goto (tgt := 55) hx hb d_Mo_number_35 (by decide) ?_
          refine lv_istore (lv' := [(4, .int 999), (0, .ref mm), (1, .int (nI lo)), (2, .int (nI hi)), (3, .int (nI pp))]) hx hb d_Mo_number_55 hl (by decide) rfl (fun ls hl => ?_)
          refine lv_aload_n hx hb d_Mo_number_57 rfl (lv_at hl 1 rfl) ?_
          refine lv_dup hx hb d_Mo_number_58 rfl ?_
          refine va_get (D := (dC, dI)) (ci := 5) (v := .int (nI ee)) (C := "PatternTextModel") (T := F_Mo) (N := 24) hx hb hts iw_Mo hown hK hP 0 rfl rfl 3 (by decide) (hts _ kw_563) (fun _ h9 => h9) rfl d_Mo_number_59 ?_
          refine lv_iconst (v := 1) hx hb d_Mo_number_62 (by decide) ?_
          refine wy_iadd hx hb ee 1 d_Mo_number_63 ?_
          refine va_put (D := (dC, dI)) (ci := 5) (v := .int (nI (ee + 1))) (ty := .int) (C := "PatternTextModel") (T := F_Mo) (N := 24) hx hb hts iw_Mo t_Mo t_Mo_ok n_Mo hown hK hP hD hS 0 rfl rfl 3 (by decide) (hts _ kw_563) (fun _ h9 => h9) rfl (by decide +kernel) rfl rfl (Nat.le_of_ble_eq_true rfl) d_Mo_number_64 (fun H locs hP hD hS => ?_)
          have hP : va_P (dC, dI) ga_cl [(mm, .inr (5, [.int th, .ref u1, .int (nI n), .int (nI (ee + 1)), .int wr, .ref u5, .ref u6, .ref u7, .ref u8, .ref u9, .ref u10, .ref u11, .int (nI cn), .ref u13, .int (nI hc), .ref u15, .ref u16, .ref u17, .ref u18, .ref u19, .ref u20, .int (nI ns), .ref u22, .int (nI pz)])), (u1, .inl (cB, 120, .inl tb))] H := hP
          have hD : va_D A [(mm, .inr (5, [.int th, .ref u1, .int (nI n), .int (nI (ee + 1)), .int wr, .ref u5, .ref u6, .ref u7, .ref u8, .ref u9, .ref u10, .ref u11, .int (nI cn), .ref u13, .int (nI hc), .ref u15, .ref u16, .ref u17, .ref u18, .ref u19, .ref u20, .int (nI ns), .ref u22, .int (nI pz)])), (u1, .inl (cB, 120, .inl tb))] := hD
          refine lv_goto (tgt := 8) hx hb d_Mo_number_67 (by decide) ?_
          exact ih_8 (ee + 1) 999 (by omega) (by omega) (by omega) (by omega) (by omega) (by omega) (by rw [← hR, mo_dg_go c_19]; first | rw [if_pos c_29] | rw [if_neg (by omega)]) (by omega) H locs hP hD hS ls (lv_sub hl [1, 2, 3, 4, 0] rfl)
  exact loop_8 _ pp 0 (by omega) (by omega) (by omega) (by omega) (by omega) (by omega) (rfl) (Nat.lt_succ_self _) s.heap ([]) hP hD hS ls (lv_sub hl [2, 3, 4, 1, 0] rfl)

set_option maxHeartbeats 4000000 in
set_option maxRecDepth 100000 in
theorem c_Mo_print (l : Launch) (dC : Nat → ClassId) (dI : Nat → Nat → Nat) (sz : Nat) (mm : Nat) (u1 : Nat) (u5 : Nat) (u6 : Nat) (u7 : Nat) (u8 : Nat) (u9 : Nat) (u10 : Nat) (u11 : Nat) (u13 : Nat) (u15 : Nat) (u16 : Nat) (u17 : Nat) (u18 : Nat) (u19 : Nat) (u20 : Nat) (u22 : Nat) (th : Int32) (n : Nat) (pv : Int32) (wr : Int32) (cn : Nat) (hc : Nat) (ns : Nat) (pz : Nat) (cB : ClassId) (cI : ClassId) (kx : Nat → Int32) (kz : Nat → Int32) (kp : Nat → Int32) (zn : Nat → Nat) (x : Int32) (hc0 : cn ≤ 10) (hz : ∀ q, q < cn → kz q = nI (zn q) ∧ zn q ≤ 120) (hbx : ∀ j, vp_nar .byte (kx j) = kx j) : Met l y_Mo_print w_Mo_print ({ frames := 1, cells := 0, slots := 0, locals := 21 }) (va_Pc [.ref mm, .int x] (wy_M (dC, dI) ga_cl [(mm, .inr (5, [.int th, .ref u1, .int (nI n), .int pv, .int wr, .ref u5, .ref u6, .ref u7, .ref u8, .ref u9, .ref u10, .ref u11, .int (nI cn), .ref u13, .int (nI hc), .ref u15, .ref u16, .ref u17, .ref u18, .ref u19, .ref u20, .int (nI ns), .ref u22, .int (nI pz)])), (u10, .inl (cB, 1200, .inl kx)), (u11, .inl (cI, 10, .inl kz)), (u22, .inl (cB, 120, .inl kp))] [(cB, .byte), (cI, .int)] sz)) (va_Qi (fun (r : Int32) (_ : Unit) => r = cond (li_has cn x) (nI (zn x.toNatClampNeg)) 0) (fun _ => wy_N (dC, dI) ga_cl [(cB, .byte), (cI, .int)] (va_A [(mm, .inr (5, [.int th, .ref u1, .int (nI n), .int pv, .int wr, .ref u5, .ref u6, .ref u7, .ref u8, .ref u9, .ref u10, .ref u11, .int (nI cn), .ref u13, .int (nI hc), .ref u15, .ref u16, .ref u17, .ref u18, .ref u19, .ref u20, .int (nI ns), .ref u22, .int (nI pz)])), (u10, .inl (cB, 1200, .inl kx)), (u11, .inl (cI, 10, .inl kz)), (u22, .inl (cB, 120, .inl kp))] sz) [(mm, .inr (5, [.int 0, .ref u1, .int (nI n), .int pv, .int wr, .ref u5, .ref u6, .ref u7, .ref u8, .ref u9, .ref u10, .ref u11, .int (nI cn), .ref u13, .int (nI hc), .ref u15, .ref u16, .ref u17, .ref u18, .ref u19, .ref u20, .int (nI ns), .ref u22, .int (nI (cond (li_has cn x) (zn x.toNatClampNeg) pz))])), (u10, .inl (cB, 1200, .inl kx)), (u11, .inl (cI, 10, .inl kz)), (u22, .inl (cB, 120, .inl (cond (li_has cn x) (mo_cp kx (120 * x.toNatClampNeg) (zn x.toNatClampNeg) kp) kp)))]) (va_A [(mm, .inr (5, [.int th, .ref u1, .int (nI n), .int pv, .int wr, .ref u5, .ref u6, .ref u7, .ref u8, .ref u9, .ref u10, .ref u11, .int (nI cn), .ref u13, .int (nI hc), .ref u15, .ref u16, .ref u17, .ref u18, .ref u19, .ref u20, .int (nI ns), .ref u22, .int (nI pz)])), (u10, .inl (cB, 1200, .inl kx)), (u11, .inl (cI, 10, .inl kz)), (u22, .inl (cB, 120, .inl kp))] sz)) 0 0 (va_A [(mm, .inr (5, [.int th, .ref u1, .int (nI n), .int pv, .int wr, .ref u5, .ref u6, .ref u7, .ref u8, .ref u9, .ref u10, .ref u11, .int (nI cn), .ref u13, .int (nI hc), .ref u15, .ref u16, .ref u17, .ref u18, .ref u19, .ref u20, .int (nI ns), .ref u22, .int (nI pz)])), (u10, .inl (cB, 1200, .inl kx)), (u11, .inl (cI, 10, .inl kz)), (u22, .inl (cB, 120, .inl kp))] sz) := by
  refine Met.ofW (cc := b_Mo_print) (maxL := 3) (ret := (some .int)) (by decide) rfl ?_
  intro p e s m args below meth c s₁ B hml hv
  obtain ⟨rfl, hsz, hP, hK, hN, hD0⟩ := hv
  have hx := B.exec
  have hb := B.bytes
  have hr := B.returns
  have hts : ∀ w ∈ ga_tbl, w.before _ s = true := fun w h => atoms_spec (ws := w_Mo_print) B.pre w (List.mem_cons_of_mem _ h)
  have hown : s.vm.findClass "PatternTextModel" = some m.cls := findClass_of_methodNamed B.named
  have hlocks := B.notSynchronized
  subst hsz
  have hD := hD0.self (sz := s.heap.size)
  generalize hAe : va_A [(mm, .inr (5, [.int th, .ref u1, .int (nI n), .int pv, .int wr, .ref u5, .ref u6, .ref u7, .ref u8, .ref u9, .ref u10, .ref u11, .int (nI cn), .ref u13, .int (nI hc), .ref u15, .ref u16, .ref u17, .ref u18, .ref u19, .ref u20, .int (nI ns), .ref u22, .int (nI pz)])), (u10, .inl (cB, 1200, .inl kx)), (u11, .inl (cI, 10, .inl kz)), (u22, .inl (cB, 120, .inl kp))] s.heap.size = A at hD ⊢
  have hA : ∀ q : Nat, s.heap.size ≤ q → A q := fun q h => by rw [← hAe]; exact Or.inr h
  have hS : va_S A s.heap s.heap [] := va_S.rf
  have hl := lv_entry ([.ref mm, .int x]) (n := 3) (Nat.le_of_ble_eq_true rfl)
  rw [lg_entry_eq]
  generalize (lg_sl ([.ref mm, .int x]) ++ List.replicate (3 - (lg_sl ([.ref mm, .int x])).length) Slot.unset).toArray = ls at hl ⊢
  have hl : lv_has ls 3 [(0, .ref mm), (1, .int x)] := hl
  obtain ⟨Q0, hQ⟩ : ∃ Q0 : State → Prop, Q0 = MQ below (va_Qi (fun (r : Int32) (_ : Unit) => r = cond (li_has cn x) (nI (zn x.toNatClampNeg)) 0) (fun _ => wy_N (dC, dI) ga_cl [(cB, .byte), (cI, .int)] A [(mm, .inr (5, [.int 0, .ref u1, .int (nI n), .int pv, .int wr, .ref u5, .ref u6, .ref u7, .ref u8, .ref u9, .ref u10, .ref u11, .int (nI cn), .ref u13, .int (nI hc), .ref u15, .ref u16, .ref u17, .ref u18, .ref u19, .ref u20, .int (nI ns), .ref u22, .int (nI (cond (li_has cn x) (zn x.toNatClampNeg) pz))])), (u10, .inl (cB, 1200, .inl kx)), (u11, .inl (cI, 10, .inl kz)), (u22, .inl (cB, 120, .inl (cond (li_has cn x) (mo_cp kx (120 * x.toNatClampNeg) (zn x.toNatClampNeg) kp) kp)))]) A) ([.ref mm, .int x] : List Value).toArray s 0 0 A := ⟨_, rfl⟩
  show W p l e ({ frames := 1, cells := 0, slots := 0, locals := 21 }) s m ([.ref mm, .int x] : List Value).toArray below meth c s.heap [] 0 0 (MQ below (va_Qi (fun (r : Int32) (_ : Unit) => r = cond (li_has cn x) (nI (zn x.toNatClampNeg)) 0) (fun _ => wy_N (dC, dI) ga_cl [(cB, .byte), (cI, .int)] A [(mm, .inr (5, [.int 0, .ref u1, .int (nI n), .int pv, .int wr, .ref u5, .ref u6, .ref u7, .ref u8, .ref u9, .ref u10, .ref u11, .int (nI cn), .ref u13, .int (nI hc), .ref u15, .ref u16, .ref u17, .ref u18, .ref u19, .ref u20, .int (nI ns), .ref u22, .int (nI (cond (li_has cn x) (zn x.toNatClampNeg) pz))])), (u10, .inl (cB, 1200, .inl kx)), (u11, .inl (cI, 10, .inl kz)), (u22, .inl (cB, 120, .inl (cond (li_has cn x) (mo_cp kx (120 * x.toNatClampNeg) (zn x.toNatClampNeg) kp) kp)))]) A) ([.ref mm, .int x] : List Value).toArray s 0 0 A) (F0 m 0 ls [])
  rw [← hQ]
  refine lv_aload_n hx hb d_Mo_print_0 rfl (lv_at hl 0 rfl) ?_
  refine lv_iconst (v := 0) hx hb d_Mo_print_1 (by decide) ?_
  refine va_put (D := (dC, dI)) (ci := 5) (v := .int 0) (ty := .int) (C := "PatternTextModel") (T := F_Mo) (N := 24) hx hb hts iw_Mo t_Mo t_Mo_ok n_Mo hown hK hP hD hS 0 rfl rfl 0 (by decide) (hts _ kw_560) (fun _ h9 => h9) rfl (by decide +kernel) rfl rfl (Nat.le_of_ble_eq_true rfl) d_Mo_print_2 (fun H locs hP hD hS => ?_)
  have hP : va_P (dC, dI) ga_cl [(mm, .inr (5, [.int 0, .ref u1, .int (nI n), .int pv, .int wr, .ref u5, .ref u6, .ref u7, .ref u8, .ref u9, .ref u10, .ref u11, .int (nI cn), .ref u13, .int (nI hc), .ref u15, .ref u16, .ref u17, .ref u18, .ref u19, .ref u20, .int (nI ns), .ref u22, .int (nI pz)])), (u10, .inl (cB, 1200, .inl kx)), (u11, .inl (cI, 10, .inl kz)), (u22, .inl (cB, 120, .inl kp))] H := hP
  have hD : va_D A [(mm, .inr (5, [.int 0, .ref u1, .int (nI n), .int pv, .int wr, .ref u5, .ref u6, .ref u7, .ref u8, .ref u9, .ref u10, .ref u11, .int (nI cn), .ref u13, .int (nI hc), .ref u15, .ref u16, .ref u17, .ref u18, .ref u19, .ref u20, .int (nI ns), .ref u22, .int (nI pz)])), (u10, .inl (cB, 1200, .inl kx)), (u11, .inl (cI, 10, .inl kz)), (u22, .inl (cB, 120, .inl kp))] := hD
  refine lv_aload_n hx hb d_Mo_print_5 rfl (lv_at hl 0 rfl) ?_
  refine lv_iload_n hx hb d_Mo_print_6 rfl (lv_at hl 1 rfl) ?_
  refine vp_callSi (va_runV (As := [.int x]) (rest := []) ⟨hx, hb, hml, hown, hts⟩ (c_Mo_isPattern l dC dI mm u1 u5 u6 u7 u8 u9 u10 u11 u13 u15 u16 u17 u18 u19 u20 u22 0 n pv wr cn hc ns pz x ) (cwV 1 hts (ga_V kw_715 kw_717 kw_26 kw_38 (ga_in kw_718)) rfl rfl rfl (by decide +kernel) ⟨Nat.le_of_ble_eq_true rfl, Nat.le_of_ble_eq_true rfl⟩) (wy_preV 0 (hP.sub (ws' := [(mm, .inr (5, [.int 0, .ref u1, .int (nI n), .int pv, .int wr, .ref u5, .ref u6, .ref u7, .ref u8, .ref u9, .ref u10, .ref u11, .int (nI cn), .ref u13, .int (nI hc), .ref u15, .ref u16, .ref u17, .ref u18, .ref u19, .ref u20, .int (nI ns), .ref u22, .int (nI pz)]))]) [0] rfl) (hK.sub (tys' := []) [] rfl) hN (ci := 5) rfl rfl rfl) rfl rfl hl.1 rfl (lv_room (Nat.le_of_ble_eq_true rfl)) d_Mo_print_7 ⟨Nat.le_of_ble_eq_true rfl, Nat.le_of_ble_eq_true rfl⟩).run (fun r_7 h_7 => ?_)
  subst h_7
  refine wy_ifneB (tgt := 15) hx hb d_Mo_print_10 (by decide) (fun c_10 => ?_) (fun c_10 => ?_)
  · obtain ⟨pq, hk, rfl⟩ := li_has_of (by omega) c_10
    have c_10 : li_has cn (nI pq) = true := by rw [li_has_nI (by omega) (by omega), decide_eq_true hk]
    obtain ⟨e1, b1⟩ := hz pq hk
    refine lv_aload_n hx hb d_Mo_print_15 rfl (lv_at hl 0 rfl) ?_
    refine lv_aload_n hx hb d_Mo_print_16 rfl (lv_at hl 0 rfl) ?_
    refine va_get (D := (dC, dI)) (ci := 5) (v := .ref u11) (C := "PatternTextModel") (T := F_Mo) (N := 24) hx hb hts iw_Mo hown hK hP 0 rfl rfl 11 (by decide) (hts _ kw_571) (fun _ h9 => h9) rfl d_Mo_print_17 ?_
    refine lv_iload_n hx hb d_Mo_print_20 rfl (lv_at hl 1 rfl) ?_
    refine wy_iald hx hb hK hP 2 1 pq rfl rfl (by omega) (by omega) d_Mo_print_21 ?_
    refine wy_cvi (y := nI (zn pq)) (e1) ?_
    refine va_put (D := (dC, dI)) (ci := 5) (v := .int (nI (zn pq))) (ty := .int) (C := "PatternTextModel") (T := F_Mo) (N := 24) hx hb hts iw_Mo t_Mo t_Mo_ok n_Mo hown hK hP hD hS 0 rfl rfl 23 (by decide) (hts _ kw_583) (fun _ h9 => h9) rfl (by decide +kernel) rfl rfl (Nat.le_of_ble_eq_true rfl) d_Mo_print_22 (fun H locs hP hD hS => ?_)
    have hP : va_P (dC, dI) ga_cl [(mm, .inr (5, [.int 0, .ref u1, .int (nI n), .int pv, .int wr, .ref u5, .ref u6, .ref u7, .ref u8, .ref u9, .ref u10, .ref u11, .int (nI cn), .ref u13, .int (nI hc), .ref u15, .ref u16, .ref u17, .ref u18, .ref u19, .ref u20, .int (nI ns), .ref u22, .int (nI (zn pq))])), (u10, .inl (cB, 1200, .inl kx)), (u11, .inl (cI, 10, .inl kz)), (u22, .inl (cB, 120, .inl kp))] H := hP
    have hD : va_D A [(mm, .inr (5, [.int 0, .ref u1, .int (nI n), .int pv, .int wr, .ref u5, .ref u6, .ref u7, .ref u8, .ref u9, .ref u10, .ref u11, .int (nI cn), .ref u13, .int (nI hc), .ref u15, .ref u16, .ref u17, .ref u18, .ref u19, .ref u20, .int (nI ns), .ref u22, .int (nI (zn pq))])), (u10, .inl (cB, 1200, .inl kx)), (u11, .inl (cI, 10, .inl kz)), (u22, .inl (cB, 120, .inl kp))] := hD
    refine lv_iconst (v := 0) hx hb d_Mo_print_25 (by decide) ?_
    refine lv_istore_n (lv' := [(2, .int 0), (0, .ref mm), (1, .int (nI pq))]) hx hb d_Mo_print_26 rfl hl (by decide) rfl (fun ls hl => ?_)
    have loop_27 : ∀ (fu : Nat) (k : Nat) (kq : Nat → Int32), (k ≤ zn pq) → (kq = mo_cp kx (120 * pq) k kp) → zn pq - k < fu → ∀ (H : Heap) (locs : List Loc), va_P (dC, dI) ga_cl [(mm, .inr (5, [.int 0, .ref u1, .int (nI n), .int pv, .int wr, .ref u5, .ref u6, .ref u7, .ref u8, .ref u9, .ref u10, .ref u11, .int (nI cn), .ref u13, .int (nI hc), .ref u15, .ref u16, .ref u17, .ref u18, .ref u19, .ref u20, .int (nI ns), .ref u22, .int (nI (zn pq))])), (u10, .inl (cB, 1200, .inl kx)), (u11, .inl (cI, 10, .inl kz)), (u22, .inl (cB, 120, .inl kq))] H → va_D A [(mm, .inr (5, [.int 0, .ref u1, .int (nI n), .int pv, .int wr, .ref u5, .ref u6, .ref u7, .ref u8, .ref u9, .ref u10, .ref u11, .int (nI cn), .ref u13, .int (nI hc), .ref u15, .ref u16, .ref u17, .ref u18, .ref u19, .ref u20, .int (nI ns), .ref u22, .int (nI (zn pq))])), (u10, .inl (cB, 1200, .inl kx)), (u11, .inl (cI, 10, .inl kz)), (u22, .inl (cB, 120, .inl kq))] → va_S A s.heap H locs → ∀ (ls : Array Slot), lv_has ls 3 [(0, .ref mm), (1, .int (nI pq)), (2, .int (nI k))] → W p l e ({ frames := 1, cells := 0, slots := 0, locals := 21 }) s m ([.ref mm, .int (nI pq)] : List Value).toArray below meth c H locs 0 0 Q0 (F0 m 27 ls []) := by
      intro fu
      induction fu with
      | zero => intro k kq h1 hR hmu; exact absurd hmu (Nat.not_lt_zero _)
      | succ fu ih_27 =>
        intro k kq h1 hR hmu H locs hP hD hS ls hl
        refine lv_iload_n hx hb d_Mo_print_27 rfl (lv_at hl 2 rfl) ?_
        refine lv_aload_n hx hb d_Mo_print_28 rfl (lv_at hl 0 rfl) ?_
        refine va_get (D := (dC, dI)) (ci := 5) (v := .int (nI (zn pq))) (C := "PatternTextModel") (T := F_Mo) (N := 24) hx hb hts iw_Mo hown hK hP 0 rfl rfl 23 (by decide) (hts _ kw_583) (fun _ h9 => h9) rfl d_Mo_print_29 ?_
        refine wy_icmp_ge (tgt := 58) hx hb k (zn pq) (by omega) (by omega) d_Mo_print_32 (by decide) (fun c_32 => ?_) (fun c_32 => ?_)
        · refine lv_aload_n hx hb d_Mo_print_58 rfl (lv_at hl 0 rfl) ?_
          refine va_get (D := (dC, dI)) (ci := 5) (v := .int (nI (zn pq))) (C := "PatternTextModel") (T := F_Mo) (N := 24) hx hb hts iw_Mo hown hK hP 0 rfl rfl 23 (by decide) (hts _ kw_583) (fun _ h9 => h9) rfl d_Mo_print_59 ?_
          rw [hQ]
          have q9 : (nI (zn pq) : Int32) = cond (li_has cn (nI pq)) (nI (zn (nI pq).toNatClampNeg)) 0 := by rw [c_10, nI_clamp (by omega)]; rfl
          have e9 : ([(mm, .inr (5, [.int 0, .ref u1, .int (nI n), .int pv, .int wr, .ref u5, .ref u6, .ref u7, .ref u8, .ref u9, .ref u10, .ref u11, .int (nI cn), .ref u13, .int (nI hc), .ref u15, .ref u16, .ref u17, .ref u18, .ref u19, .ref u20, .int (nI ns), .ref u22, .int (nI (cond (li_has cn (nI pq)) (zn (nI pq).toNatClampNeg) pz))])), (u10, .inl (cB, 1200, .inl kx)), (u11, .inl (cI, 10, .inl kz)), (u22, .inl (cB, 120, .inl (cond (li_has cn (nI pq)) (mo_cp kx (120 * (nI pq).toNatClampNeg) (zn (nI pq).toNatClampNeg) kp) kp)))] : va_W) = [(mm, .inr (5, [.int 0, .ref u1, .int (nI n), .int pv, .int wr, .ref u5, .ref u6, .ref u7, .ref u8, .ref u9, .ref u10, .ref u11, .int (nI cn), .ref u13, .int (nI hc), .ref u15, .ref u16, .ref u17, .ref u18, .ref u19, .ref u20, .int (nI ns), .ref u22, .int (nI (zn pq))])), (u10, .inl (cB, 1200, .inl kx)), (u11, .inl (cI, 10, .inl kz)), (u22, .inl (cB, 120, .inl kq))] := by rw [c_10, nI_clamp (by omega), hR, show zn pq = k by omega]; rfl
          exact W.iret (v := nI (zn pq)) hx hb hr (fun t ht hW => ⟨⟨_, (), rfl, q9, by rw [ht, e9]; exact hP, va_K.moved hW.alike hK, by rw [e9]; exact hD⟩, hS.F ht⟩) hS.2.2 d_Mo_print_62
        · refine lv_aload_n hx hb d_Mo_print_35 rfl (lv_at hl 0 rfl) ?_
          refine va_get (D := (dC, dI)) (ci := 5) (v := .ref u22) (C := "PatternTextModel") (T := F_Mo) (N := 24) hx hb hts iw_Mo hown hK hP 0 rfl rfl 22 (by decide) (hts _ kw_582) (fun _ h9 => h9) rfl d_Mo_print_36 ?_
          refine lv_iload_n hx hb d_Mo_print_39 rfl (lv_at hl 2 rfl) ?_
          refine lv_aload_n hx hb d_Mo_print_40 rfl (lv_at hl 0 rfl) ?_
          refine va_get (D := (dC, dI)) (ci := 5) (v := .ref u10) (C := "PatternTextModel") (T := F_Mo) (N := 24) hx hb hts iw_Mo hown hK hP 0 rfl rfl 10 (by decide) (hts _ kw_570) (fun _ h9 => h9) rfl d_Mo_print_41 ?_
          refine lv_bipush (v := 120) hx hb d_Mo_print_44 (by decide) ?_
          refine lv_iload_n hx hb d_Mo_print_46 rfl (lv_at hl 1 rfl) ?_
          refine wy_imul hx hb 120 pq d_Mo_print_47 ?_
          refine lv_iload_n hx hb d_Mo_print_48 rfl (lv_at hl 2 rfl) ?_
          refine wy_iadd hx hb (120 * pq) k d_Mo_print_49 ?_
          refine wy_bald hx hb hK hP 1 0 ((120 * pq) + k) rfl rfl (by omega) (by omega) d_Mo_print_50 ?_
          refine wy_bast hx hb hK hP hD hS 3 0 k rfl rfl (hbx _) (by omega) (by omega) d_Mo_print_51 (fun H locs hP hD hS => ?_)
          have hP : va_P (dC, dI) ga_cl [(mm, .inr (5, [.int 0, .ref u1, .int (nI n), .int pv, .int wr, .ref u5, .ref u6, .ref u7, .ref u8, .ref u9, .ref u10, .ref u11, .int (nI cn), .ref u13, .int (nI hc), .ref u15, .ref u16, .ref u17, .ref u18, .ref u19, .ref u20, .int (nI ns), .ref u22, .int (nI (zn pq))])), (u10, .inl (cB, 1200, .inl kx)), (u11, .inl (cI, 10, .inl kz)), (u22, .inl (cB, 120, .inl (upd kq k (kx ((120 * pq) + k)))))] H := hP
          have hD : va_D A [(mm, .inr (5, [.int 0, .ref u1, .int (nI n), .int pv, .int wr, .ref u5, .ref u6, .ref u7, .ref u8, .ref u9, .ref u10, .ref u11, .int (nI cn), .ref u13, .int (nI hc), .ref u15, .ref u16, .ref u17, .ref u18, .ref u19, .ref u20, .int (nI ns), .ref u22, .int (nI (zn pq))])), (u10, .inl (cB, 1200, .inl kx)), (u11, .inl (cI, 10, .inl kz)), (u22, .inl (cB, 120, .inl (upd kq k (kx ((120 * pq) + k)))))] := hD
          refine wy_iinc (x := k) (lv' := [(2, .int (nI (k + 1))), (0, .ref mm), (1, .int (nI pq))]) hx hb d_Mo_print_52 hl (k := 2) rfl (by decide) rfl (fun ls hl => ?_)
          refine lv_goto (tgt := 27) hx hb d_Mo_print_55 (by decide) ?_
          exact ih_27 (k + 1) (upd kq k (kx ((120 * pq) + k))) (by omega) (by rw [hR]; exact mo_cp_go _ _ _ _) (by omega) H locs hP hD hS ls (lv_sub hl [1, 2, 0] rfl)
    exact loop_27 _ 0 kp (by omega) ((mo_cp_0 _ _ _).symm) (Nat.lt_succ_self _) H locs hP hD hS ls (lv_sub hl [1, 2, 0] rfl)
  · refine lv_iconst (v := 0) hx hb d_Mo_print_13 (by decide) ?_
    rw [hQ]
    have q9 : (0 : Int32) = cond (li_has cn x) (nI (zn x.toNatClampNeg)) 0 := by rw [c_10]; rfl
    have e9 : ([(mm, .inr (5, [.int 0, .ref u1, .int (nI n), .int pv, .int wr, .ref u5, .ref u6, .ref u7, .ref u8, .ref u9, .ref u10, .ref u11, .int (nI cn), .ref u13, .int (nI hc), .ref u15, .ref u16, .ref u17, .ref u18, .ref u19, .ref u20, .int (nI ns), .ref u22, .int (nI (cond (li_has cn x) (zn x.toNatClampNeg) pz))])), (u10, .inl (cB, 1200, .inl kx)), (u11, .inl (cI, 10, .inl kz)), (u22, .inl (cB, 120, .inl (cond (li_has cn x) (mo_cp kx (120 * x.toNatClampNeg) (zn x.toNatClampNeg) kp) kp)))] : va_W) = [(mm, .inr (5, [.int 0, .ref u1, .int (nI n), .int pv, .int wr, .ref u5, .ref u6, .ref u7, .ref u8, .ref u9, .ref u10, .ref u11, .int (nI cn), .ref u13, .int (nI hc), .ref u15, .ref u16, .ref u17, .ref u18, .ref u19, .ref u20, .int (nI ns), .ref u22, .int (nI pz)])), (u10, .inl (cB, 1200, .inl kx)), (u11, .inl (cI, 10, .inl kz)), (u22, .inl (cB, 120, .inl kp))] := by rw [c_10]; rfl
    exact W.iret (v := 0) hx hb hr (fun t ht hW => ⟨⟨_, (), rfl, q9, by rw [ht, e9]; exact hP, va_K.moved hW.alike hK, by rw [e9]; exact hD⟩, hS.F ht⟩) hS.2.2 d_Mo_print_14

set_option maxHeartbeats 4000000 in
set_option maxRecDepth 100000 in
theorem c_Mo_claim (l : Launch) (dC : Nat → ClassId) (dI : Nat → Nat → Nat) (sz : Nat) (mm : Nat) (u1 : Nat) (u5 : Nat) (u6 : Nat) (u7 : Nat) (u8 : Nat) (u9 : Nat) (u10 : Nat) (u11 : Nat) (u13 : Nat) (u15 : Nat) (u16 : Nat) (u17 : Nat) (u18 : Nat) (u19 : Nat) (u20 : Nat) (u22 : Nat) (th : Int32) (n : Nat) (pv : Int32) (wr : Int32) (cn : Nat) (hc : Nat) (ns : Nat) (pz : Nat) (cI : ClassId) (fe : Nat → Int32) (fc : Nat → Int32) (x : Int32) (y : Int32) (hn : ns ≤ 100) : Met l y_Mo_claim w_Mo_claim ({ frames := 2, cells := 0, slots := 0, locals := 45 }) (va_Pc [.ref mm, .int x, .int y] (wy_M (dC, dI) ga_cl [(mm, .inr (5, [.int th, .ref u1, .int (nI n), .int pv, .int wr, .ref u5, .ref u6, .ref u7, .ref u8, .ref u9, .ref u10, .ref u11, .int (nI cn), .ref u13, .int (nI hc), .ref u15, .ref u16, .ref u17, .ref u18, .ref u19, .ref u20, .int (nI ns), .ref u22, .int (nI pz)])), (u16, .inl (cI, 100, .inl fe)), (u20, .inl (cI, 100, .inl fc))] [(cI, .int)] sz)) (va_Qi (fun (r : Int32) (_ : Unit) => r = mo_cl fc fe ns x y ns 0) (fun _ => wy_N (dC, dI) ga_cl [(cI, .int)] (va_A [(mm, .inr (5, [.int th, .ref u1, .int (nI n), .int pv, .int wr, .ref u5, .ref u6, .ref u7, .ref u8, .ref u9, .ref u10, .ref u11, .int (nI cn), .ref u13, .int (nI hc), .ref u15, .ref u16, .ref u17, .ref u18, .ref u19, .ref u20, .int (nI ns), .ref u22, .int (nI pz)])), (u16, .inl (cI, 100, .inl fe)), (u20, .inl (cI, 100, .inl fc))] sz) [(mm, .inr (5, [.int 0, .ref u1, .int (nI n), .int pv, .int wr, .ref u5, .ref u6, .ref u7, .ref u8, .ref u9, .ref u10, .ref u11, .int (nI cn), .ref u13, .int (nI hc), .ref u15, .ref u16, .ref u17, .ref u18, .ref u19, .ref u20, .int (nI ns), .ref u22, .int (nI pz)])), (u16, .inl (cI, 100, .inl fe)), (u20, .inl (cI, 100, .inl fc))]) (va_A [(mm, .inr (5, [.int th, .ref u1, .int (nI n), .int pv, .int wr, .ref u5, .ref u6, .ref u7, .ref u8, .ref u9, .ref u10, .ref u11, .int (nI cn), .ref u13, .int (nI hc), .ref u15, .ref u16, .ref u17, .ref u18, .ref u19, .ref u20, .int (nI ns), .ref u22, .int (nI pz)])), (u16, .inl (cI, 100, .inl fe)), (u20, .inl (cI, 100, .inl fc))] sz)) 0 0 (va_A [(mm, .inr (5, [.int th, .ref u1, .int (nI n), .int pv, .int wr, .ref u5, .ref u6, .ref u7, .ref u8, .ref u9, .ref u10, .ref u11, .int (nI cn), .ref u13, .int (nI hc), .ref u15, .ref u16, .ref u17, .ref u18, .ref u19, .ref u20, .int (nI ns), .ref u22, .int (nI pz)])), (u16, .inl (cI, 100, .inl fe)), (u20, .inl (cI, 100, .inl fc))] sz) := by
  refine Met.ofW (cc := b_Mo_claim) (maxL := 6) (ret := (some .int)) (by decide) rfl ?_
  intro p e s m args below meth c s₁ B hml hv
  obtain ⟨rfl, hsz, hP, hK, hN, hD0⟩ := hv
  have hx := B.exec
  have hb := B.bytes
  have hr := B.returns
  have hts : ∀ w ∈ ga_tbl, w.before _ s = true := fun w h => atoms_spec (ws := w_Mo_claim) B.pre w (List.mem_cons_of_mem _ h)
  have hown : s.vm.findClass "PatternTextModel" = some m.cls := findClass_of_methodNamed B.named
  have hlocks := B.notSynchronized
  subst hsz
  have hD := hD0.self (sz := s.heap.size)
  generalize hAe : va_A [(mm, .inr (5, [.int th, .ref u1, .int (nI n), .int pv, .int wr, .ref u5, .ref u6, .ref u7, .ref u8, .ref u9, .ref u10, .ref u11, .int (nI cn), .ref u13, .int (nI hc), .ref u15, .ref u16, .ref u17, .ref u18, .ref u19, .ref u20, .int (nI ns), .ref u22, .int (nI pz)])), (u16, .inl (cI, 100, .inl fe)), (u20, .inl (cI, 100, .inl fc))] s.heap.size = A at hD ⊢
  have hA : ∀ q : Nat, s.heap.size ≤ q → A q := fun q h => by rw [← hAe]; exact Or.inr h
  have hS : va_S A s.heap s.heap [] := va_S.rf
  have hl := lv_entry ([.ref mm, .int x, .int y]) (n := 6) (Nat.le_of_ble_eq_true rfl)
  rw [lg_entry_eq]
  generalize (lg_sl ([.ref mm, .int x, .int y]) ++ List.replicate (6 - (lg_sl ([.ref mm, .int x, .int y])).length) Slot.unset).toArray = ls at hl ⊢
  have hl : lv_has ls 6 [(0, .ref mm), (1, .int x), (2, .int y)] := hl
  obtain ⟨Q0, hQ⟩ : ∃ Q0 : State → Prop, Q0 = MQ below (va_Qi (fun (r : Int32) (_ : Unit) => r = mo_cl fc fe ns x y ns 0) (fun _ => wy_N (dC, dI) ga_cl [(cI, .int)] A [(mm, .inr (5, [.int 0, .ref u1, .int (nI n), .int pv, .int wr, .ref u5, .ref u6, .ref u7, .ref u8, .ref u9, .ref u10, .ref u11, .int (nI cn), .ref u13, .int (nI hc), .ref u15, .ref u16, .ref u17, .ref u18, .ref u19, .ref u20, .int (nI ns), .ref u22, .int (nI pz)])), (u16, .inl (cI, 100, .inl fe)), (u20, .inl (cI, 100, .inl fc))]) A) ([.ref mm, .int x, .int y] : List Value).toArray s 0 0 A := ⟨_, rfl⟩
  show W p l e ({ frames := 2, cells := 0, slots := 0, locals := 45 }) s m ([.ref mm, .int x, .int y] : List Value).toArray below meth c s.heap [] 0 0 (MQ below (va_Qi (fun (r : Int32) (_ : Unit) => r = mo_cl fc fe ns x y ns 0) (fun _ => wy_N (dC, dI) ga_cl [(cI, .int)] A [(mm, .inr (5, [.int 0, .ref u1, .int (nI n), .int pv, .int wr, .ref u5, .ref u6, .ref u7, .ref u8, .ref u9, .ref u10, .ref u11, .int (nI cn), .ref u13, .int (nI hc), .ref u15, .ref u16, .ref u17, .ref u18, .ref u19, .ref u20, .int (nI ns), .ref u22, .int (nI pz)])), (u16, .inl (cI, 100, .inl fe)), (u20, .inl (cI, 100, .inl fc))]) A) ([.ref mm, .int x, .int y] : List Value).toArray s 0 0 A) (F0 m 0 ls [])
  rw [← hQ]
  refine lv_aload_n hx hb d_Mo_claim_0 rfl (lv_at hl 0 rfl) ?_
  refine lv_iconst (v := 0) hx hb d_Mo_claim_1 (by decide) ?_
  refine va_put (D := (dC, dI)) (ci := 5) (v := .int 0) (ty := .int) (C := "PatternTextModel") (T := F_Mo) (N := 24) hx hb hts iw_Mo t_Mo t_Mo_ok n_Mo hown hK hP hD hS 0 rfl rfl 0 (by decide) (hts _ kw_560) (fun _ h9 => h9) rfl (by decide +kernel) rfl rfl (Nat.le_of_ble_eq_true rfl) d_Mo_claim_2 (fun H locs hP hD hS => ?_)
  have hP : va_P (dC, dI) ga_cl [(mm, .inr (5, [.int 0, .ref u1, .int (nI n), .int pv, .int wr, .ref u5, .ref u6, .ref u7, .ref u8, .ref u9, .ref u10, .ref u11, .int (nI cn), .ref u13, .int (nI hc), .ref u15, .ref u16, .ref u17, .ref u18, .ref u19, .ref u20, .int (nI ns), .ref u22, .int (nI pz)])), (u16, .inl (cI, 100, .inl fe)), (u20, .inl (cI, 100, .inl fc))] H := hP
  have hD : va_D A [(mm, .inr (5, [.int 0, .ref u1, .int (nI n), .int pv, .int wr, .ref u5, .ref u6, .ref u7, .ref u8, .ref u9, .ref u10, .ref u11, .int (nI cn), .ref u13, .int (nI hc), .ref u15, .ref u16, .ref u17, .ref u18, .ref u19, .ref u20, .int (nI ns), .ref u22, .int (nI pz)])), (u16, .inl (cI, 100, .inl fe)), (u20, .inl (cI, 100, .inl fc))] := hD
  refine lv_iconst (v := 0) hx hb d_Mo_claim_5 (by decide) ?_
  refine lv_istore_n (lv' := [(3, .int 0), (0, .ref mm), (1, .int x), (2, .int y)]) hx hb d_Mo_claim_6 rfl hl (by decide) rfl (fun ls hl => ?_)
  have loop_7 : ∀ (fu : Nat) (k : Nat), (k ≤ ns) → (mo_cl fc fe ns x y (ns - k) k = mo_cl fc fe ns x y ns 0) → ns - k < fu → ∀ (H : Heap) (locs : List Loc), va_P (dC, dI) ga_cl [(mm, .inr (5, [.int 0, .ref u1, .int (nI n), .int pv, .int wr, .ref u5, .ref u6, .ref u7, .ref u8, .ref u9, .ref u10, .ref u11, .int (nI cn), .ref u13, .int (nI hc), .ref u15, .ref u16, .ref u17, .ref u18, .ref u19, .ref u20, .int (nI ns), .ref u22, .int (nI pz)])), (u16, .inl (cI, 100, .inl fe)), (u20, .inl (cI, 100, .inl fc))] H → va_D A [(mm, .inr (5, [.int 0, .ref u1, .int (nI n), .int pv, .int wr, .ref u5, .ref u6, .ref u7, .ref u8, .ref u9, .ref u10, .ref u11, .int (nI cn), .ref u13, .int (nI hc), .ref u15, .ref u16, .ref u17, .ref u18, .ref u19, .ref u20, .int (nI ns), .ref u22, .int (nI pz)])), (u16, .inl (cI, 100, .inl fe)), (u20, .inl (cI, 100, .inl fc))] → va_S A s.heap H locs → ∀ (ls : Array Slot), lv_has ls 6 [(0, .ref mm), (1, .int x), (2, .int y), (3, .int (nI k))] → W p l e ({ frames := 2, cells := 0, slots := 0, locals := 45 }) s m ([.ref mm, .int x, .int y] : List Value).toArray below meth c H locs 0 0 Q0 (F0 m 7 ls []) := by
    intro fu
    induction fu with
    | zero => intro k h1 hR hmu; exact absurd hmu (Nat.not_lt_zero _)
    | succ fu ih_7 =>
      intro k h1 hR hmu H locs hP hD hS ls hl
      refine lv_iload_n hx hb d_Mo_claim_7 rfl (lv_at hl 3 rfl) ?_
      refine lv_aload_n hx hb d_Mo_claim_8 rfl (lv_at hl 0 rfl) ?_
      refine va_get (D := (dC, dI)) (ci := 5) (v := .int (nI ns)) (C := "PatternTextModel") (T := F_Mo) (N := 24) hx hb hts iw_Mo hown hK hP 0 rfl rfl 21 (by decide) (hts _ kw_581) (fun _ h9 => h9) rfl d_Mo_claim_9 ?_
      refine wy_icmp_ge (tgt := 128) hx hb k ns (by omega) (by omega) d_Mo_claim_12 (by decide) (fun c_12 => ?_) (fun c_12 => ?_)
      · refine lv_iconst (v := -1) hx hb d_Mo_claim_128 (by decide) ?_
        rw [hQ]
        have z9 : mo_cl fc fe ns x y ns 0 = (-1) := by rw [← hR]; first | exact mo_cl_0 c_12 | (rw [mo_cl_go c_12]; exact if_pos c_16) | (rw [mo_cl_go c_12, if_neg c_16, c_23]; rfl)
        have q9 : ((-1) : Int32) = mo_cl fc fe ns x y ns 0 := by rw [z9]
        have e9 : ([(mm, .inr (5, [.int 0, .ref u1, .int (nI n), .int pv, .int wr, .ref u5, .ref u6, .ref u7, .ref u8, .ref u9, .ref u10, .ref u11, .int (nI cn), .ref u13, .int (nI hc), .ref u15, .ref u16, .ref u17, .ref u18, .ref u19, .ref u20, .int (nI ns), .ref u22, .int (nI pz)])), (u16, .inl (cI, 100, .inl fe)), (u20, .inl (cI, 100, .inl fc))] : va_W) = [(mm, .inr (5, [.int 0, .ref u1, .int (nI n), .int pv, .int wr, .ref u5, .ref u6, .ref u7, .ref u8, .ref u9, .ref u10, .ref u11, .int (nI cn), .ref u13, .int (nI hc), .ref u15, .ref u16, .ref u17, .ref u18, .ref u19, .ref u20, .int (nI ns), .ref u22, .int (nI pz)])), (u16, .inl (cI, 100, .inl fe)), (u20, .inl (cI, 100, .inl fc))] := by rfl
        exact W.iret (v := (-1)) hx hb hr (fun t ht hW => ⟨⟨_, (), rfl, q9, by rw [ht, e9]; exact hP, va_K.moved hW.alike hK, by rw [e9]; exact hD⟩, hS.F ht⟩) hS.2.2 d_Mo_claim_129
      · refine lv_iload_n hx hb d_Mo_claim_15 rfl (lv_at hl 2 rfl) ?_
        refine lv_if_lt (tgt := 128) hx hb d_Mo_claim_16 (by decide) (fun c_16 => ?_) (fun c_16 => ?_)
        · refine lv_iconst (v := -1) hx hb d_Mo_claim_128 (by decide) ?_
          rw [hQ]
          have z9 : mo_cl fc fe ns x y ns 0 = (-1) := by rw [← hR]; first | exact mo_cl_0 c_12 | (rw [mo_cl_go c_12]; exact if_pos c_16) | (rw [mo_cl_go c_12, if_neg c_16, c_23]; rfl)
          have q9 : ((-1) : Int32) = mo_cl fc fe ns x y ns 0 := by rw [z9]
          have e9 : ([(mm, .inr (5, [.int 0, .ref u1, .int (nI n), .int pv, .int wr, .ref u5, .ref u6, .ref u7, .ref u8, .ref u9, .ref u10, .ref u11, .int (nI cn), .ref u13, .int (nI hc), .ref u15, .ref u16, .ref u17, .ref u18, .ref u19, .ref u20, .int (nI ns), .ref u22, .int (nI pz)])), (u16, .inl (cI, 100, .inl fe)), (u20, .inl (cI, 100, .inl fc))] : va_W) = [(mm, .inr (5, [.int 0, .ref u1, .int (nI n), .int pv, .int wr, .ref u5, .ref u6, .ref u7, .ref u8, .ref u9, .ref u10, .ref u11, .int (nI cn), .ref u13, .int (nI hc), .ref u15, .ref u16, .ref u17, .ref u18, .ref u19, .ref u20, .int (nI ns), .ref u22, .int (nI pz)])), (u16, .inl (cI, 100, .inl fe)), (u20, .inl (cI, 100, .inl fc))] := by rfl
          exact W.iret (v := (-1)) hx hb hr (fun t ht hW => ⟨⟨_, (), rfl, q9, by rw [ht, e9]; exact hP, va_K.moved hW.alike hK, by rw [e9]; exact hD⟩, hS.F ht⟩) hS.2.2 d_Mo_claim_129
        · refine lv_iload_n hx hb d_Mo_claim_19 rfl (lv_at hl 1 rfl) ?_
          refine vp_callSi (va_runS (As := [.int x]) (rest := []) ⟨hx, hb, hml, hown, hts⟩ (c_Mo_isDay l dC dI x ) (cwS 1 hts (ga_S kw_703 kw_704 kw_38 (ga_in kw_705)) rfl rfl rfl (by decide +kernel) ⟨Nat.le_of_ble_eq_true rfl, Nat.le_of_ble_eq_true rfl⟩) (wy_preS (hP.sub (ws' := []) [] rfl) (hK.sub (tys' := []) [] rfl) hN) rfl rfl hl.1 rfl (lv_room (Nat.le_of_ble_eq_true rfl)) d_Mo_claim_20 ⟨Nat.le_of_ble_eq_true rfl, Nat.le_of_ble_eq_true rfl⟩).run (fun r_20 h_20 => ?_)
          subst h_20
          refine wy_ifeqB (tgt := 128) hx hb d_Mo_claim_23 (by decide) (fun c_23 => ?_) (fun c_23 => ?_)
          · refine lv_iconst (v := -1) hx hb d_Mo_claim_128 (by decide) ?_
            rw [hQ]
            have z9 : mo_cl fc fe ns x y ns 0 = (-1) := by rw [← hR]; first | exact mo_cl_0 c_12 | (rw [mo_cl_go c_12]; exact if_pos c_16) | (rw [mo_cl_go c_12, if_neg c_16, c_23]; rfl)
            have q9 : ((-1) : Int32) = mo_cl fc fe ns x y ns 0 := by rw [z9]
            have e9 : ([(mm, .inr (5, [.int 0, .ref u1, .int (nI n), .int pv, .int wr, .ref u5, .ref u6, .ref u7, .ref u8, .ref u9, .ref u10, .ref u11, .int (nI cn), .ref u13, .int (nI hc), .ref u15, .ref u16, .ref u17, .ref u18, .ref u19, .ref u20, .int (nI ns), .ref u22, .int (nI pz)])), (u16, .inl (cI, 100, .inl fe)), (u20, .inl (cI, 100, .inl fc))] : va_W) = [(mm, .inr (5, [.int 0, .ref u1, .int (nI n), .int pv, .int wr, .ref u5, .ref u6, .ref u7, .ref u8, .ref u9, .ref u10, .ref u11, .int (nI cn), .ref u13, .int (nI hc), .ref u15, .ref u16, .ref u17, .ref u18, .ref u19, .ref u20, .int (nI ns), .ref u22, .int (nI pz)])), (u16, .inl (cI, 100, .inl fe)), (u20, .inl (cI, 100, .inl fc))] := by rfl
            exact W.iret (v := (-1)) hx hb hr (fun t ht hW => ⟨⟨_, (), rfl, q9, by rw [ht, e9]; exact hP, va_K.moved hW.alike hK, by rw [e9]; exact hD⟩, hS.F ht⟩) hS.2.2 d_Mo_claim_129
          · refine lv_aload_n hx hb d_Mo_claim_26 rfl (lv_at hl 0 rfl) ?_
            refine lv_iload_n hx hb d_Mo_claim_27 rfl (lv_at hl 3 rfl) ?_
            refine lv_iload_n hx hb d_Mo_claim_28 rfl (lv_at hl 1 rfl) ?_
            refine vp_callSi (va_runV (As := [.int (nI k), .int x]) (rest := []) ⟨hx, hb, hml, hown, hts⟩ (c_Mo_isClaim l dC dI mm u1 u5 u6 u7 u8 u9 u10 u11 u13 u15 u16 u17 u18 u19 u20 u22 0 n pv wr cn hc ns pz cI fe fc k x (by omega)) (cwV 2 hts (ga_V kw_767 kw_769 kw_32 kw_38 (ga_in kw_770)) rfl rfl rfl (by decide +kernel) ⟨Nat.le_of_ble_eq_true rfl, Nat.le_of_ble_eq_true rfl⟩) (wy_preV 0 (hP.sub (ws' := [(mm, .inr (5, [.int 0, .ref u1, .int (nI n), .int pv, .int wr, .ref u5, .ref u6, .ref u7, .ref u8, .ref u9, .ref u10, .ref u11, .int (nI cn), .ref u13, .int (nI hc), .ref u15, .ref u16, .ref u17, .ref u18, .ref u19, .ref u20, .int (nI ns), .ref u22, .int (nI pz)])), (u16, .inl (cI, 100, .inl fe)), (u20, .inl (cI, 100, .inl fc))]) [0, 1, 2] rfl) (hK.sub (tys' := [(cI, .int)]) [0] rfl) hN (ci := 5) rfl rfl rfl) rfl rfl hl.1 rfl (lv_room (Nat.le_of_ble_eq_true rfl)) d_Mo_claim_29 ⟨Nat.le_of_ble_eq_true rfl, Nat.le_of_ble_eq_true rfl⟩).run (fun r_29 h_29 => ?_)
            subst h_29
            refine wy_ifeqB (tgt := 122) hx hb d_Mo_claim_32 (by decide) (fun c_32 => ?_) (fun c_32 => ?_)
            · refine wy_iinc (x := k) (lv' := [(3, .int (nI (k + 1))), (0, .ref mm), (1, .int x), (2, .int y)]) hx hb d_Mo_claim_122 hl (k := 3) rfl (by decide) rfl (fun ls hl => ?_)
              refine lv_goto (tgt := 7) hx hb d_Mo_claim_125 (by decide) ?_
              exact ih_7 (k + 1) (by omega) (by rw [← hR, mo_cl_go c_12, if_neg c_16, c_23, c_32]; first | rfl | (rw [show mo_cb fc fe x k ns 0 0 = cc0 from hX]; exact (if_neg c_117).symm)) (by omega) H locs hP hD hS ls (lv_sub hl [1, 2, 3, 0] rfl)
            · refine lv_iconst (v := 0) hx hb d_Mo_claim_35 (by decide) ?_
              refine lv_istore (lv' := [(4, .int 0), (0, .ref mm), (1, .int x), (2, .int y), (3, .int (nI k))]) hx hb d_Mo_claim_36 hl (by decide) rfl (fun ls hl => ?_)
              refine lv_iconst (v := 0) hx hb d_Mo_claim_38 (by decide) ?_
              refine lv_istore (lv' := [(5, .int 0), (4, .int 0), (0, .ref mm), (1, .int x), (2, .int y), (3, .int (nI k))]) hx hb d_Mo_claim_39 hl (by decide) rfl (fun ls hl => ?_)
              have loop_41 : ∀ (fu : Nat) (j : Nat) (cc0 : Nat), (j ≤ ns) → (cc0 ≤ j) → (mo_cb fc fe x k (ns - j) j cc0 = mo_cb fc fe x k ns 0 0) → ns - j < fu → ∀ (H : Heap) (locs : List Loc), va_P (dC, dI) ga_cl [(mm, .inr (5, [.int 0, .ref u1, .int (nI n), .int pv, .int wr, .ref u5, .ref u6, .ref u7, .ref u8, .ref u9, .ref u10, .ref u11, .int (nI cn), .ref u13, .int (nI hc), .ref u15, .ref u16, .ref u17, .ref u18, .ref u19, .ref u20, .int (nI ns), .ref u22, .int (nI pz)])), (u16, .inl (cI, 100, .inl fe)), (u20, .inl (cI, 100, .inl fc))] H → va_D A [(mm, .inr (5, [.int 0, .ref u1, .int (nI n), .int pv, .int wr, .ref u5, .ref u6, .ref u7, .ref u8, .ref u9, .ref u10, .ref u11, .int (nI cn), .ref u13, .int (nI hc), .ref u15, .ref u16, .ref u17, .ref u18, .ref u19, .ref u20, .int (nI ns), .ref u22, .int (nI pz)])), (u16, .inl (cI, 100, .inl fe)), (u20, .inl (cI, 100, .inl fc))] → va_S A s.heap H locs → ∀ (ls : Array Slot), lv_has ls 6 [(0, .ref mm), (1, .int x), (2, .int y), (3, .int (nI k)), (4, .int (nI cc0)), (5, .int (nI j))] → W p l e ({ frames := 2, cells := 0, slots := 0, locals := 45 }) s m ([.ref mm, .int x, .int y] : List Value).toArray below meth c H locs 0 0 Q0 (F0 m 41 ls []) := by
                intro fu
                induction fu with
                | zero => intro j cc0 g1 g2 gR hmu; exact absurd hmu (Nat.not_lt_zero _)
                | succ fu ih_41 =>
                  intro j cc0 g1 g2 gR hmu H locs hP hD hS ls hl
                  refine lv_iload hx hb d_Mo_claim_41 (lv_at hl 5 rfl) ?_
                  refine lv_aload_n hx hb d_Mo_claim_43 rfl (lv_at hl 0 rfl) ?_
                  refine va_get (D := (dC, dI)) (ci := 5) (v := .int (nI ns)) (C := "PatternTextModel") (T := F_Mo) (N := 24) hx hb hts iw_Mo hown hK hP 0 rfl rfl 21 (by decide) (hts _ kw_581) (fun _ h9 => h9) rfl d_Mo_claim_44 ?_
                  refine wy_icmp_ge (tgt := 114) hx hb j ns (by omega) (by omega) d_Mo_claim_47 (by decide) (fun c_47 => ?_) (fun c_47 => ?_)
                  · have hX : mo_cb fc fe x k ns 0 0 = cc0 := by rw [← gR]; exact mo_cb_0 c_47
                    refine lv_iload hx hb d_Mo_claim_114 (lv_at hl 4 rfl) ?_
                    refine lv_iload_n hx hb d_Mo_claim_116 rfl (lv_at hl 2 rfl) ?_
                    refine lv_icmp_ne (tgt := 122) hx hb d_Mo_claim_117 (by decide) (fun c_117 => ?_) (fun c_117 => ?_)
                    · refine wy_iinc (x := k) (lv' := [(3, .int (nI (k + 1))), (0, .ref mm), (1, .int x), (2, .int y), (4, .int (nI cc0)), (5, .int (nI j))]) hx hb d_Mo_claim_122 hl (k := 3) rfl (by decide) rfl (fun ls hl => ?_)
                      refine lv_goto (tgt := 7) hx hb d_Mo_claim_125 (by decide) ?_
                      exact ih_7 (k + 1) (by omega) (by rw [← hR, mo_cl_go c_12, if_neg c_16, c_23, c_32]; first | rfl | (rw [show mo_cb fc fe x k ns 0 0 = cc0 from hX]; exact (if_neg c_117).symm)) (by omega) H locs hP hD hS ls (lv_sub hl [1, 2, 3, 0] rfl)
                    · refine lv_iload_n hx hb d_Mo_claim_120 rfl (lv_at hl 3 rfl) ?_
                      rw [hQ]
                      have z9 : mo_cl fc fe ns x y ns 0 = nI k := by rw [← hR]; rw [mo_cl_go c_12, if_neg c_16, c_23, c_32, show mo_cb fc fe x k ns 0 0 = cc0 from hX]; exact if_pos c_117
                      have q9 : (nI k : Int32) = mo_cl fc fe ns x y ns 0 := by rw [z9]
                      have e9 : ([(mm, .inr (5, [.int 0, .ref u1, .int (nI n), .int pv, .int wr, .ref u5, .ref u6, .ref u7, .ref u8, .ref u9, .ref u10, .ref u11, .int (nI cn), .ref u13, .int (nI hc), .ref u15, .ref u16, .ref u17, .ref u18, .ref u19, .ref u20, .int (nI ns), .ref u22, .int (nI pz)])), (u16, .inl (cI, 100, .inl fe)), (u20, .inl (cI, 100, .inl fc))] : va_W) = [(mm, .inr (5, [.int 0, .ref u1, .int (nI n), .int pv, .int wr, .ref u5, .ref u6, .ref u7, .ref u8, .ref u9, .ref u10, .ref u11, .int (nI cn), .ref u13, .int (nI hc), .ref u15, .ref u16, .ref u17, .ref u18, .ref u19, .ref u20, .int (nI ns), .ref u22, .int (nI pz)])), (u16, .inl (cI, 100, .inl fe)), (u20, .inl (cI, 100, .inl fc))] := by rfl
                      exact W.iret (v := nI k) hx hb hr (fun t ht hW => ⟨⟨_, (), rfl, q9, by rw [ht, e9]; exact hP, va_K.moved hW.alike hK, by rw [e9]; exact hD⟩, hS.F ht⟩) hS.2.2 d_Mo_claim_121
                  · refine lv_iload hx hb d_Mo_claim_50 (lv_at hl 4 rfl) ?_
                    refine lv_aload_n hx hb d_Mo_claim_52 rfl (lv_at hl 0 rfl) ?_
                    refine lv_iload hx hb d_Mo_claim_53 (lv_at hl 5 rfl) ?_
                    refine lv_iload_n hx hb d_Mo_claim_55 rfl (lv_at hl 1 rfl) ?_
                    refine vp_callSi (va_runV (As := [.int (nI j), .int x]) (rest := [.int (nI cc0)]) ⟨hx, hb, hml, hown, hts⟩ (c_Mo_isClaim l dC dI mm u1 u5 u6 u7 u8 u9 u10 u11 u13 u15 u16 u17 u18 u19 u20 u22 0 n pv wr cn hc ns pz cI fe fc j x (by omega)) (cwV 2 hts (ga_V kw_767 kw_769 kw_32 kw_38 (ga_in kw_770)) rfl rfl rfl (by decide +kernel) ⟨Nat.le_of_ble_eq_true rfl, Nat.le_of_ble_eq_true rfl⟩) (wy_preV 0 (hP.sub (ws' := [(mm, .inr (5, [.int 0, .ref u1, .int (nI n), .int pv, .int wr, .ref u5, .ref u6, .ref u7, .ref u8, .ref u9, .ref u10, .ref u11, .int (nI cn), .ref u13, .int (nI hc), .ref u15, .ref u16, .ref u17, .ref u18, .ref u19, .ref u20, .int (nI ns), .ref u22, .int (nI pz)])), (u16, .inl (cI, 100, .inl fe)), (u20, .inl (cI, 100, .inl fc))]) [0, 1, 2] rfl) (hK.sub (tys' := [(cI, .int)]) [0] rfl) hN (ci := 5) rfl rfl rfl) rfl rfl hl.1 rfl (lv_room (Nat.le_of_ble_eq_true rfl)) d_Mo_claim_56 ⟨Nat.le_of_ble_eq_true rfl, Nat.le_of_ble_eq_true rfl⟩).run (fun r_56 h_56 => ?_)
                    subst h_56
                    refine wy_ifeqB (tgt := 104) hx hb d_Mo_claim_59 (by decide) (fun c_59 => ?_) (fun c_59 => ?_)
                    · refine lv_iconst (v := 0) hx hb d_Mo_claim_104 (by decide) ?_
                      refine wy_iadd hx hb cc0 0 d_Mo_claim_105 ?_
                      refine lv_istore (lv' := [(4, .int (nI (cc0 + 0))), (0, .ref mm), (1, .int x), (2, .int y), (3, .int (nI k)), (5, .int (nI j))]) hx hb d_Mo_claim_106 hl (by decide) rfl (fun ls hl => ?_)
                      refine wy_iinc (x := j) (lv' := [(5, .int (nI (j + 1))), (4, .int (nI (cc0 + 0))), (0, .ref mm), (1, .int x), (2, .int y), (3, .int (nI k))]) hx hb d_Mo_claim_108 hl (k := 5) rfl (by decide) rfl (fun ls hl => ?_)
                      refine lv_goto (tgt := 41) hx hb d_Mo_claim_111 (by decide) ?_
                      exact ih_41 (j + 1) (cc0 + 0) (by omega) (by omega) (by rw [← gR, mo_cb_go c_47]; congr 1; simp [mo_bf, *]) (by omega) H locs hP hD hS ls (lv_sub hl [2, 3, 4, 5, 1, 0] rfl)
                    · refine lv_aload_n hx hb d_Mo_claim_62 rfl (lv_at hl 0 rfl) ?_
                      refine lv_iload hx hb d_Mo_claim_63 (lv_at hl 5 rfl) ?_
                      refine lv_iload_n hx hb d_Mo_claim_65 rfl (lv_at hl 1 rfl) ?_
                      refine vp_callSi (va_runV (As := [.int (nI j), .int x]) (rest := [.int (nI cc0)]) ⟨hx, hb, hml, hown, hts⟩ (c_Mo_lateOn l dC dI mm u1 u5 u6 u7 u8 u9 u10 u11 u13 u15 u16 u17 u18 u19 u20 u22 0 n pv wr cn hc ns pz cI fe fc j x (by omega)) (cwV 2 hts (ga_V kw_759 kw_761 kw_31 kw_38 (ga_in kw_762)) rfl rfl rfl (by decide +kernel) ⟨Nat.le_of_ble_eq_true rfl, Nat.le_of_ble_eq_true rfl⟩) (wy_preV 0 (hP.sub (ws' := [(mm, .inr (5, [.int 0, .ref u1, .int (nI n), .int pv, .int wr, .ref u5, .ref u6, .ref u7, .ref u8, .ref u9, .ref u10, .ref u11, .int (nI cn), .ref u13, .int (nI hc), .ref u15, .ref u16, .ref u17, .ref u18, .ref u19, .ref u20, .int (nI ns), .ref u22, .int (nI pz)])), (u16, .inl (cI, 100, .inl fe)), (u20, .inl (cI, 100, .inl fc))]) [0, 1, 2] rfl) (hK.sub (tys' := [(cI, .int)]) [0] rfl) hN (ci := 5) rfl rfl rfl) rfl rfl hl.1 rfl (lv_room (Nat.le_of_ble_eq_true rfl)) d_Mo_claim_66 ⟨Nat.le_of_ble_eq_true rfl, Nat.le_of_ble_eq_true rfl⟩).run (fun r_66 h_66 => ?_)
                      subst h_66
                      refine lv_aload_n hx hb d_Mo_claim_69 rfl (lv_at hl 0 rfl) ?_
                      refine lv_iload_n hx hb d_Mo_claim_70 rfl (lv_at hl 3 rfl) ?_
                      refine lv_iload_n hx hb d_Mo_claim_71 rfl (lv_at hl 1 rfl) ?_
                      refine vp_callSi (va_runV (As := [.int (nI k), .int x]) (rest := [.int (mo_late fc fe j x), .int (nI cc0)]) ⟨hx, hb, hml, hown, hts⟩ (c_Mo_lateOn l dC dI mm u1 u5 u6 u7 u8 u9 u10 u11 u13 u15 u16 u17 u18 u19 u20 u22 0 n pv wr cn hc ns pz cI fe fc k x (by omega)) (cwV 2 hts (ga_V kw_759 kw_761 kw_31 kw_38 (ga_in kw_762)) rfl rfl rfl (by decide +kernel) ⟨Nat.le_of_ble_eq_true rfl, Nat.le_of_ble_eq_true rfl⟩) (wy_preV 0 (hP.sub (ws' := [(mm, .inr (5, [.int 0, .ref u1, .int (nI n), .int pv, .int wr, .ref u5, .ref u6, .ref u7, .ref u8, .ref u9, .ref u10, .ref u11, .int (nI cn), .ref u13, .int (nI hc), .ref u15, .ref u16, .ref u17, .ref u18, .ref u19, .ref u20, .int (nI ns), .ref u22, .int (nI pz)])), (u16, .inl (cI, 100, .inl fe)), (u20, .inl (cI, 100, .inl fc))]) [0, 1, 2] rfl) (hK.sub (tys' := [(cI, .int)]) [0] rfl) hN (ci := 5) rfl rfl rfl) rfl rfl hl.1 rfl (lv_room (Nat.le_of_ble_eq_true rfl)) d_Mo_claim_72 ⟨Nat.le_of_ble_eq_true rfl, Nat.le_of_ble_eq_true rfl⟩).run (fun r_72 h_72 => ?_)
                      subst h_72
                      refine lv_icmp_gt (tgt := 100) hx hb d_Mo_claim_75 (by decide) (fun c_75 => ?_) (fun c_75 => ?_)
                      · refine lv_iconst (v := 1) hx hb d_Mo_claim_100 (by decide) ?_
                        refine lv_goto (tgt := 105) hx hb d_Mo_claim_101 (by decide) ?_
                        refine wy_iadd hx hb cc0 1 d_Mo_claim_105 ?_
                        refine lv_istore (lv' := [(4, .int (nI (cc0 + 1))), (0, .ref mm), (1, .int x), (2, .int y), (3, .int (nI k)), (5, .int (nI j))]) hx hb d_Mo_claim_106 hl (by decide) rfl (fun ls hl => ?_)
                        refine wy_iinc (x := j) (lv' := [(5, .int (nI (j + 1))), (4, .int (nI (cc0 + 1))), (0, .ref mm), (1, .int x), (2, .int y), (3, .int (nI k))]) hx hb d_Mo_claim_108 hl (k := 5) rfl (by decide) rfl (fun ls hl => ?_)
                        refine lv_goto (tgt := 41) hx hb d_Mo_claim_111 (by decide) ?_
                        exact ih_41 (j + 1) (cc0 + 1) (by omega) (by omega) (by rw [← gR, mo_cb_go c_47]; congr 1; simp [mo_bf, *]) (by omega) H locs hP hD hS ls (lv_sub hl [2, 3, 4, 5, 1, 0] rfl)
                      · refine lv_aload_n hx hb d_Mo_claim_78 rfl (lv_at hl 0 rfl) ?_
                        refine lv_iload hx hb d_Mo_claim_79 (lv_at hl 5 rfl) ?_
                        refine lv_iload_n hx hb d_Mo_claim_81 rfl (lv_at hl 1 rfl) ?_
                        refine vp_callSi (va_runV (As := [.int (nI j), .int x]) (rest := [.int (nI cc0)]) ⟨hx, hb, hml, hown, hts⟩ (c_Mo_lateOn l dC dI mm u1 u5 u6 u7 u8 u9 u10 u11 u13 u15 u16 u17 u18 u19 u20 u22 0 n pv wr cn hc ns pz cI fe fc j x (by omega)) (cwV 2 hts (ga_V kw_759 kw_761 kw_31 kw_38 (ga_in kw_762)) rfl rfl rfl (by decide +kernel) ⟨Nat.le_of_ble_eq_true rfl, Nat.le_of_ble_eq_true rfl⟩) (wy_preV 0 (hP.sub (ws' := [(mm, .inr (5, [.int 0, .ref u1, .int (nI n), .int pv, .int wr, .ref u5, .ref u6, .ref u7, .ref u8, .ref u9, .ref u10, .ref u11, .int (nI cn), .ref u13, .int (nI hc), .ref u15, .ref u16, .ref u17, .ref u18, .ref u19, .ref u20, .int (nI ns), .ref u22, .int (nI pz)])), (u16, .inl (cI, 100, .inl fe)), (u20, .inl (cI, 100, .inl fc))]) [0, 1, 2] rfl) (hK.sub (tys' := [(cI, .int)]) [0] rfl) hN (ci := 5) rfl rfl rfl) rfl rfl hl.1 rfl (lv_room (Nat.le_of_ble_eq_true rfl)) d_Mo_claim_82 ⟨Nat.le_of_ble_eq_true rfl, Nat.le_of_ble_eq_true rfl⟩).run (fun r_82 h_82 => ?_)
                        subst h_82
                        refine lv_aload_n hx hb d_Mo_claim_85 rfl (lv_at hl 0 rfl) ?_
                        refine lv_iload_n hx hb d_Mo_claim_86 rfl (lv_at hl 3 rfl) ?_
                        refine lv_iload_n hx hb d_Mo_claim_87 rfl (lv_at hl 1 rfl) ?_
                        refine vp_callSi (va_runV (As := [.int (nI k), .int x]) (rest := [.int (mo_late fc fe j x), .int (nI cc0)]) ⟨hx, hb, hml, hown, hts⟩ (c_Mo_lateOn l dC dI mm u1 u5 u6 u7 u8 u9 u10 u11 u13 u15 u16 u17 u18 u19 u20 u22 0 n pv wr cn hc ns pz cI fe fc k x (by omega)) (cwV 2 hts (ga_V kw_759 kw_761 kw_31 kw_38 (ga_in kw_762)) rfl rfl rfl (by decide +kernel) ⟨Nat.le_of_ble_eq_true rfl, Nat.le_of_ble_eq_true rfl⟩) (wy_preV 0 (hP.sub (ws' := [(mm, .inr (5, [.int 0, .ref u1, .int (nI n), .int pv, .int wr, .ref u5, .ref u6, .ref u7, .ref u8, .ref u9, .ref u10, .ref u11, .int (nI cn), .ref u13, .int (nI hc), .ref u15, .ref u16, .ref u17, .ref u18, .ref u19, .ref u20, .int (nI ns), .ref u22, .int (nI pz)])), (u16, .inl (cI, 100, .inl fe)), (u20, .inl (cI, 100, .inl fc))]) [0, 1, 2] rfl) (hK.sub (tys' := [(cI, .int)]) [0] rfl) hN (ci := 5) rfl rfl rfl) rfl rfl hl.1 rfl (lv_room (Nat.le_of_ble_eq_true rfl)) d_Mo_claim_88 ⟨Nat.le_of_ble_eq_true rfl, Nat.le_of_ble_eq_true rfl⟩).run (fun r_88 h_88 => ?_)
                        subst h_88
                        refine lv_icmp_ne (tgt := 104) hx hb d_Mo_claim_91 (by decide) (fun c_91 => ?_) (fun c_91 => ?_)
                        · refine lv_iconst (v := 0) hx hb d_Mo_claim_104 (by decide) ?_
                          refine wy_iadd hx hb cc0 0 d_Mo_claim_105 ?_
                          refine lv_istore (lv' := [(4, .int (nI (cc0 + 0))), (0, .ref mm), (1, .int x), (2, .int y), (3, .int (nI k)), (5, .int (nI j))]) hx hb d_Mo_claim_106 hl (by decide) rfl (fun ls hl => ?_)
                          refine wy_iinc (x := j) (lv' := [(5, .int (nI (j + 1))), (4, .int (nI (cc0 + 0))), (0, .ref mm), (1, .int x), (2, .int y), (3, .int (nI k))]) hx hb d_Mo_claim_108 hl (k := 5) rfl (by decide) rfl (fun ls hl => ?_)
                          refine lv_goto (tgt := 41) hx hb d_Mo_claim_111 (by decide) ?_
                          exact ih_41 (j + 1) (cc0 + 0) (by omega) (by omega) (by rw [← gR, mo_cb_go c_47]; congr 1; simp [mo_bf, *]) (by omega) H locs hP hD hS ls (lv_sub hl [2, 3, 4, 5, 1, 0] rfl)
                        · refine lv_iload hx hb d_Mo_claim_94 (lv_at hl 5 rfl) ?_
                          refine lv_iload_n hx hb d_Mo_claim_96 rfl (lv_at hl 3 rfl) ?_
                          refine wy_icmp_ge (tgt := 104) hx hb j k (by omega) (by omega) d_Mo_claim_97 (by decide) (fun c_97 => ?_) (fun c_97 => ?_)
                          · have d_97 : ¬ j < k := by omega
                            refine lv_iconst (v := 0) hx hb d_Mo_claim_104 (by decide) ?_
                            refine wy_iadd hx hb cc0 0 d_Mo_claim_105 ?_
                            refine lv_istore (lv' := [(4, .int (nI (cc0 + 0))), (0, .ref mm), (1, .int x), (2, .int y), (3, .int (nI k)), (5, .int (nI j))]) hx hb d_Mo_claim_106 hl (by decide) rfl (fun ls hl => ?_)
                            refine wy_iinc (x := j) (lv' := [(5, .int (nI (j + 1))), (4, .int (nI (cc0 + 0))), (0, .ref mm), (1, .int x), (2, .int y), (3, .int (nI k))]) hx hb d_Mo_claim_108 hl (k := 5) rfl (by decide) rfl (fun ls hl => ?_)
                            refine lv_goto (tgt := 41) hx hb d_Mo_claim_111 (by decide) ?_
                            exact ih_41 (j + 1) (cc0 + 0) (by omega) (by omega) (by rw [← gR, mo_cb_go c_47]; congr 1; simp [mo_bf, *]) (by omega) H locs hP hD hS ls (lv_sub hl [2, 3, 4, 5, 1, 0] rfl)
                          · refine lv_iconst (v := 1) hx hb d_Mo_claim_100 (by decide) ?_
                            refine lv_goto (tgt := 105) hx hb d_Mo_claim_101 (by decide) ?_
                            refine wy_iadd hx hb cc0 1 d_Mo_claim_105 ?_
                            refine lv_istore (lv' := [(4, .int (nI (cc0 + 1))), (0, .ref mm), (1, .int x), (2, .int y), (3, .int (nI k)), (5, .int (nI j))]) hx hb d_Mo_claim_106 hl (by decide) rfl (fun ls hl => ?_)
                            refine wy_iinc (x := j) (lv' := [(5, .int (nI (j + 1))), (4, .int (nI (cc0 + 1))), (0, .ref mm), (1, .int x), (2, .int y), (3, .int (nI k))]) hx hb d_Mo_claim_108 hl (k := 5) rfl (by decide) rfl (fun ls hl => ?_)
                            refine lv_goto (tgt := 41) hx hb d_Mo_claim_111 (by decide) ?_
                            exact ih_41 (j + 1) (cc0 + 1) (by omega) (by omega) (by rw [← gR, mo_cb_go c_47]; congr 1; simp [mo_bf, *]) (by omega) H locs hP hD hS ls (lv_sub hl [2, 3, 4, 5, 1, 0] rfl)
              exact loop_41 _ 0 0 (by omega) (by omega) (rfl) (Nat.lt_succ_self _) H locs hP hD hS ls (lv_sub hl [2, 3, 4, 5, 1, 0] rfl)
  exact loop_7 _ 0 (by omega) (rfl) (Nat.lt_succ_self _) H locs hP hD hS ls (lv_sub hl [1, 2, 3, 0] rfl)
