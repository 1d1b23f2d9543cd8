set_option maxHeartbeats 4000000 in
set_option maxRecDepth 100000 in
theorem c_Mo_yearly (l : Launch) (dC : Nat → ClassId) (dI : Nat → Nat → Nat) (sz : Nat) (mm : Nat) (u1 : Nat) (u5 : Nat) (u6 : Nat) (u7 : Nat) (u8 : Nat) (u9 : Nat) (u10 : Nat) (u11 : Nat) (u13 : Nat) (u15 : Nat) (u16 : Nat) (u17 : Nat) (u18 : Nat) (u19 : Nat) (u20 : Nat) (u22 : Nat) (th : Int32) (n : Nat) (pv : Int32) (wr : Int32) (cn : Nat) (hc : Nat) (ns : Nat) (pz : Nat) (cI : ClassId) (ks : Nat → Int32) (km : Nat → Int32) (sn : Nat → Nat) (x : Int32) (y : Int32) (z : Int32) (hc0 : cn ≤ 10) (hpa : ∀ q, q < cn → ks q = nI (sn q) ∧ 1 ≤ sn q ∧ sn q ≤ 2970) : Met l y_Mo_yearly w_Mo_yearly ({ frames := 1, cells := 0, slots := 0, locals := 22 }) (va_Pc [.ref mm, .int x, .int y, .int z] (wy_M (dC, dI) ga_cl [(mm, .inr (5, [.int th, .ref u1, .int (nI n), .int pv, .int wr, .ref u5, .ref u6, .ref u7, .ref u8, .ref u9, .ref u10, .ref u11, .int (nI cn), .ref u13, .int (nI hc), .ref u15, .ref u16, .ref u17, .ref u18, .ref u19, .ref u20, .int (nI ns), .ref u22, .int (nI pz)])), (u5, .inl (cI, 11, .inl ks)), (u6, .inl (cI, 11, .inl km))] [(cI, .int)] sz)) (va_Qi (fun (r : Int32) (_ : Unit) => r = cond (li_has cn x && mo_day y) (if z = 0 then 0 else nI (mo_yr (sn x.toNatClampNeg) (km x.toNatClampNeg) y.toNatClampNeg 361 y.toNatClampNeg 0) / z) (-1)) (fun _ => wy_N (dC, dI) ga_cl [(cI, .int)] (va_A [(mm, .inr (5, [.int th, .ref u1, .int (nI n), .int pv, .int wr, .ref u5, .ref u6, .ref u7, .ref u8, .ref u9, .ref u10, .ref u11, .int (nI cn), .ref u13, .int (nI hc), .ref u15, .ref u16, .ref u17, .ref u18, .ref u19, .ref u20, .int (nI ns), .ref u22, .int (nI pz)])), (u5, .inl (cI, 11, .inl ks)), (u6, .inl (cI, 11, .inl km))] sz) [(mm, .inr (5, [.int (cond (li_has cn x && mo_day y) (if z = 0 then 1 else 0) 0), .ref u1, .int (nI n), .int pv, .int wr, .ref u5, .ref u6, .ref u7, .ref u8, .ref u9, .ref u10, .ref u11, .int (nI cn), .ref u13, .int (nI hc), .ref u15, .ref u16, .ref u17, .ref u18, .ref u19, .ref u20, .int (nI ns), .ref u22, .int (nI pz)])), (u5, .inl (cI, 11, .inl ks)), (u6, .inl (cI, 11, .inl km))]) (va_A [(mm, .inr (5, [.int th, .ref u1, .int (nI n), .int pv, .int wr, .ref u5, .ref u6, .ref u7, .ref u8, .ref u9, .ref u10, .ref u11, .int (nI cn), .ref u13, .int (nI hc), .ref u15, .ref u16, .ref u17, .ref u18, .ref u19, .ref u20, .int (nI ns), .ref u22, .int (nI pz)])), (u5, .inl (cI, 11, .inl ks)), (u6, .inl (cI, 11, .inl km))] sz)) 0 0 (va_A [(mm, .inr (5, [.int th, .ref u1, .int (nI n), .int pv, .int wr, .ref u5, .ref u6, .ref u7, .ref u8, .ref u9, .ref u10, .ref u11, .int (nI cn), .ref u13, .int (nI hc), .ref u15, .ref u16, .ref u17, .ref u18, .ref u19, .ref u20, .int (nI ns), .ref u22, .int (nI pz)])), (u5, .inl (cI, 11, .inl ks)), (u6, .inl (cI, 11, .inl km))] sz) := by
  refine Met.ofW (cc := b_Mo_yearly) (maxL := 6) (ret := (some .int)) (by decide) rfl ?_
  intro p e s m args below meth c s₁ B hml hv
  obtain ⟨rfl, hsz, hP, hK, hN, hD0⟩ := hv
  have hx := B.exec
  have hb := B.bytes
  have hr := B.returns
  have hts : ∀ w ∈ ga_tbl, w.before _ s = true := fun w h => atoms_spec (ws := w_Mo_yearly) B.pre w (List.mem_cons_of_mem _ h)
  have hown : s.vm.findClass "PatternTextModel" = some m.cls := findClass_of_methodNamed B.named
  have hlocks := B.notSynchronized
  subst hsz
  have hD := hD0.self (sz := s.heap.size)
  generalize hAe : va_A [(mm, .inr (5, [.int th, .ref u1, .int (nI n), .int pv, .int wr, .ref u5, .ref u6, .ref u7, .ref u8, .ref u9, .ref u10, .ref u11, .int (nI cn), .ref u13, .int (nI hc), .ref u15, .ref u16, .ref u17, .ref u18, .ref u19, .ref u20, .int (nI ns), .ref u22, .int (nI pz)])), (u5, .inl (cI, 11, .inl ks)), (u6, .inl (cI, 11, .inl km))] s.heap.size = A at hD ⊢
  have hA : ∀ q : Nat, s.heap.size ≤ q → A q := fun q h => by rw [← hAe]; exact Or.inr h
  have hS : va_S A s.heap s.heap [] := va_S.rf
  have hl := lv_entry ([.ref mm, .int x, .int y, .int z]) (n := 6) (Nat.le_of_ble_eq_true rfl)
  rw [lg_entry_eq]
  generalize (lg_sl ([.ref mm, .int x, .int y, .int z]) ++ List.replicate (6 - (lg_sl ([.ref mm, .int x, .int y, .int z])).length) Slot.unset).toArray = ls at hl ⊢
  have hl : lv_has ls 6 [(0, .ref mm), (1, .int x), (2, .int y), (3, .int z)] := hl
  obtain ⟨Q0, hQ⟩ : ∃ Q0 : State → Prop, Q0 = MQ below (va_Qi (fun (r : Int32) (_ : Unit) => r = cond (li_has cn x && mo_day y) (if z = 0 then 0 else nI (mo_yr (sn x.toNatClampNeg) (km x.toNatClampNeg) y.toNatClampNeg 361 y.toNatClampNeg 0) / z) (-1)) (fun _ => wy_N (dC, dI) ga_cl [(cI, .int)] A [(mm, .inr (5, [.int (cond (li_has cn x && mo_day y) (if z = 0 then 1 else 0) 0), .ref u1, .int (nI n), .int pv, .int wr, .ref u5, .ref u6, .ref u7, .ref u8, .ref u9, .ref u10, .ref u11, .int (nI cn), .ref u13, .int (nI hc), .ref u15, .ref u16, .ref u17, .ref u18, .ref u19, .ref u20, .int (nI ns), .ref u22, .int (nI pz)])), (u5, .inl (cI, 11, .inl ks)), (u6, .inl (cI, 11, .inl km))]) A) ([.ref mm, .int x, .int y, .int z] : List Value).toArray s 0 0 A := ⟨_, rfl⟩
  show W p l e ({ frames := 1, cells := 0, slots := 0, locals := 22 }) s m ([.ref mm, .int x, .int y, .int z] : List Value).toArray below meth c s.heap [] 0 0 (MQ below (va_Qi (fun (r : Int32) (_ : Unit) => r = cond (li_has cn x && mo_day y) (if z = 0 then 0 else nI (mo_yr (sn x.toNatClampNeg) (km x.toNatClampNeg) y.toNatClampNeg 361 y.toNatClampNeg 0) / z) (-1)) (fun _ => wy_N (dC, dI) ga_cl [(cI, .int)] A [(mm, .inr (5, [.int (cond (li_has cn x && mo_day y) (if z = 0 then 1 else 0) 0), .ref u1, .int (nI n), .int pv, .int wr, .ref u5, .ref u6, .ref u7, .ref u8, .ref u9, .ref u10, .ref u11, .int (nI cn), .ref u13, .int (nI hc), .ref u15, .ref u16, .ref u17, .ref u18, .ref u19, .ref u20, .int (nI ns), .ref u22, .int (nI pz)])), (u5, .inl (cI, 11, .inl ks)), (u6, .inl (cI, 11, .inl km))]) A) ([.ref mm, .int x, .int y, .int z] : List Value).toArray s 0 0 A) (F0 m 0 ls [])
  rw [← hQ]
  refine lv_aload_n hx hb d_Mo_yearly_0 rfl (lv_at hl 0 rfl) ?_
  refine lv_iconst (v := 0) hx hb d_Mo_yearly_1 (by decide) ?_
  refine va_put (D := (dC, dI)) (ci := 5) (v := .int 0) (ty := .int) (C := "PatternTextModel") (T := F_Mo) (N := 24) hx hb hts iw_Mo t_Mo t_Mo_ok n_Mo hown hK hP hD hS 0 rfl rfl 0 (by decide) (hts _ kw_560) (fun _ h9 => h9) rfl (by decide +kernel) rfl rfl (Nat.le_of_ble_eq_true rfl) d_Mo_yearly_2 (fun H locs hP hD hS => ?_)
  have hP : va_P (dC, dI) ga_cl [(mm, .inr (5, [.int 0, .ref u1, .int (nI n), .int pv, .int wr, .ref u5, .ref u6, .ref u7, .ref u8, .ref u9, .ref u10, .ref u11, .int (nI cn), .ref u13, .int (nI hc), .ref u15, .ref u16, .ref u17, .ref u18, .ref u19, .ref u20, .int (nI ns), .ref u22, .int (nI pz)])), (u5, .inl (cI, 11, .inl ks)), (u6, .inl (cI, 11, .inl km))] H := hP
  have hD : va_D A [(mm, .inr (5, [.int 0, .ref u1, .int (nI n), .int pv, .int wr, .ref u5, .ref u6, .ref u7, .ref u8, .ref u9, .ref u10, .ref u11, .int (nI cn), .ref u13, .int (nI hc), .ref u15, .ref u16, .ref u17, .ref u18, .ref u19, .ref u20, .int (nI ns), .ref u22, .int (nI pz)])), (u5, .inl (cI, 11, .inl ks)), (u6, .inl (cI, 11, .inl km))] := hD
  refine lv_aload_n hx hb d_Mo_yearly_5 rfl (lv_at hl 0 rfl) ?_
  refine lv_iload_n hx hb d_Mo_yearly_6 rfl (lv_at hl 1 rfl) ?_
  refine vp_callSi (va_runV (As := [.int x]) (rest := []) ⟨hx, hb, hml, hown, hts⟩ (c_Mo_isPattern l dC dI mm u1 u5 u6 u7 u8 u9 u10 u11 u13 u15 u16 u17 u18 u19 u20 u22 0 n pv wr cn hc ns pz x ) (cwV 1 hts (ga_V kw_715 kw_717 kw_26 kw_38 (ga_in kw_718)) rfl rfl rfl (by decide +kernel) ⟨Nat.le_of_ble_eq_true rfl, Nat.le_of_ble_eq_true rfl⟩) (wy_preV 0 (hP.sub (ws' := [(mm, .inr (5, [.int 0, .ref u1, .int (nI n), .int pv, .int wr, .ref u5, .ref u6, .ref u7, .ref u8, .ref u9, .ref u10, .ref u11, .int (nI cn), .ref u13, .int (nI hc), .ref u15, .ref u16, .ref u17, .ref u18, .ref u19, .ref u20, .int (nI ns), .ref u22, .int (nI pz)]))]) [0] rfl) (hK.sub (tys' := []) [] rfl) hN (ci := 5) rfl rfl rfl) rfl rfl hl.1 rfl (lv_room (Nat.le_of_ble_eq_true rfl)) d_Mo_yearly_7 ⟨Nat.le_of_ble_eq_true rfl, Nat.le_of_ble_eq_true rfl⟩).run (fun r_7 h_7 => ?_)
  subst h_7
  refine wy_ifeqB (tgt := 20) hx hb d_Mo_yearly_10 (by decide) (fun c_10 => ?_) (fun c_10 => ?_)
  · refine lv_iconst (v := -1) hx hb d_Mo_yearly_20 (by decide) ?_
    rw [hQ]
    have z9 : (li_has cn x && mo_day y) = false := by rw [c_10]; rfl
    have q9 : ((-1) : Int32) = cond (li_has cn x && mo_day y) (if z = 0 then 0 else nI (mo_yr (sn x.toNatClampNeg) (km x.toNatClampNeg) y.toNatClampNeg 361 y.toNatClampNeg 0) / z) (-1) := by rw [z9]; rfl
    have e9 : ([(mm, .inr (5, [.int (cond (li_has cn x && mo_day y) (if z = 0 then 1 else 0) 0), .ref u1, .int (nI n), .int pv, .int wr, .ref u5, .ref u6, .ref u7, .ref u8, .ref u9, .ref u10, .ref u11, .int (nI cn), .ref u13, .int (nI hc), .ref u15, .ref u16, .ref u17, .ref u18, .ref u19, .ref u20, .int (nI ns), .ref u22, .int (nI pz)])), (u5, .inl (cI, 11, .inl ks)), (u6, .inl (cI, 11, .inl km))] : va_W) = [(mm, .inr (5, [.int 0, .ref u1, .int (nI n), .int pv, .int wr, .ref u5, .ref u6, .ref u7, .ref u8, .ref u9, .ref u10, .ref u11, .int (nI cn), .ref u13, .int (nI hc), .ref u15, .ref u16, .ref u17, .ref u18, .ref u19, .ref u20, .int (nI ns), .ref u22, .int (nI pz)])), (u5, .inl (cI, 11, .inl ks)), (u6, .inl (cI, 11, .inl km))] := by rw [z9] <;> first | rfl | (show [_, _, _] = _; rw [show (cond true (if z = 0 then (1 : Int32) else 0) 0) = 1 from if_pos c_23]) | (show [_, _, _] = _; rw [show (cond true (if z = 0 then (1 : Int32) else 0) 0) = 0 from if_neg c_23])
    exact W.iret (v := (-1)) hx hb hr (fun t ht hW => ⟨⟨_, (), rfl, q9, by rw [ht, e9]; exact hP, va_K.moved hW.alike hK, by rw [e9]; exact hD⟩, hS.F ht⟩) hS.2.2 d_Mo_yearly_21
  · obtain ⟨pq, hk, rfl⟩ := li_has_of (by omega) c_10
    have c_10 : li_has cn (nI pq) = true := by rw [li_has_nI (by omega) (by omega), decide_eq_true hk]
    obtain ⟨e1, b1, b2⟩ := hpa pq hk
    refine lv_iload_n hx hb d_Mo_yearly_13 rfl (lv_at hl 2 rfl) ?_
    refine vp_callSi (va_runS (As := [.int y]) (rest := []) ⟨hx, hb, hml, hown, hts⟩ (c_Mo_isDay l dC dI y ) (cwS 1 hts (ga_S kw_703 kw_704 kw_38 (ga_in kw_705)) rfl rfl rfl (by decide +kernel) ⟨Nat.le_of_ble_eq_true rfl, Nat.le_of_ble_eq_true rfl⟩) (wy_preS (hP.sub (ws' := []) [] rfl) (hK.sub (tys' := []) [] rfl) hN) rfl rfl hl.1 rfl (lv_room (Nat.le_of_ble_eq_true rfl)) d_Mo_yearly_14 ⟨Nat.le_of_ble_eq_true rfl, Nat.le_of_ble_eq_true rfl⟩).run (fun r_14 h_14 => ?_)
    subst h_14
    refine wy_ifneB (tgt := 22) hx hb d_Mo_yearly_17 (by decide) (fun c_17 => ?_) (fun c_17 => ?_)
    · obtain ⟨dy, hdy, rfl⟩ := mo_day_of c_17
      refine lv_iload_n hx hb d_Mo_yearly_22 rfl (lv_at hl 3 rfl) ?_
      refine lv_if_ne (tgt := 33) hx hb d_Mo_yearly_23 (by decide) (fun c_23 => ?_) (fun c_23 => ?_)
      · refine lv_iconst (v := 0) hx hb d_Mo_yearly_33 (by decide) ?_
        refine lv_istore (lv' := [(4, .int 0), (0, .ref mm), (1, .int (nI pq)), (2, .int (nI dy)), (3, .int z)]) hx hb d_Mo_yearly_34 hl (by decide) rfl (fun ls hl => ?_)
        refine lv_iload_n hx hb d_Mo_yearly_36 rfl (lv_at hl 3 rfl) ?_
        refine lv_istore (lv' := [(5, .int (nI dy)), (4, .int 0), (0, .ref mm), (1, .int (nI pq)), (2, .int (nI dy)), (3, .int z)]) hx hb d_Mo_yearly_37 hl (by decide) rfl (fun ls hl => ?_)
        have loop_39 : ∀ (fu : Nat) (k : Nat) (dd : Nat) (c0 : Nat), (dy + k ≤ dd) → (dd ≤ 1003000) → (c0 ≤ k) → (k ≤ 361) → (mo_yr (sn pq) (km pq) dy (361 - k) dd c0 = mo_yr (sn pq) (km pq) dy 361 dy 0) → 361 - k < fu → ∀ (H : Heap) (locs : List Loc), va_P (dC, dI) ga_cl [(mm, .inr (5, [.int 0, .ref u1, .int (nI n), .int pv, .int wr, .ref u5, .ref u6, .ref u7, .ref u8, .ref u9, .ref u10, .ref u11, .int (nI cn), .ref u13, .int (nI hc), .ref u15, .ref u16, .ref u17, .ref u18, .ref u19, .ref u20, .int (nI ns), .ref u22, .int (nI pz)])), (u5, .inl (cI, 11, .inl ks)), (u6, .inl (cI, 11, .inl km))] H → va_D A [(mm, .inr (5, [.int 0, .ref u1, .int (nI n), .int pv, .int wr, .ref u5, .ref u6, .ref u7, .ref u8, .ref u9, .ref u10, .ref u11, .int (nI cn), .ref u13, .int (nI hc), .ref u15, .ref u16, .ref u17, .ref u18, .ref u19, .ref u20, .int (nI ns), .ref u22, .int (nI pz)])), (u5, .inl (cI, 11, .inl ks)), (u6, .inl (cI, 11, .inl km))] → va_S A s.heap H locs → ∀ (ls : Array Slot), lv_has ls 6 [(0, .ref mm), (1, .int (nI pq)), (2, .int (nI dy)), (3, .int z), (4, .int (nI c0)), (5, .int (nI dd))] → W p l e ({ frames := 1, cells := 0, slots := 0, locals := 22 }) s m ([.ref mm, .int (nI pq), .int (nI dy), .int z] : List Value).toArray below meth c H locs 0 0 Q0 (F0 m 39 ls []) := by
          intro fu
          induction fu with
          | zero => intro k dd c0 h1 h2 h3 h4 hR hmu; exact absurd hmu (Nat.not_lt_zero _)
          | succ fu ih_39 =>
            intro k dd c0 h1 h2 h3 h4 hR hmu H locs hP hD hS ls hl
            refine lv_iload hx hb d_Mo_yearly_39 (lv_at hl 5 rfl) ?_
            refine lv_iload_n hx hb d_Mo_yearly_41 rfl (lv_at hl 2 rfl) ?_
            refine lv_sipush (v := 360) hx hb d_Mo_yearly_42 (by decide) ?_
            refine wy_iadd hx hb dy 360 d_Mo_yearly_45 ?_
            refine wy_icmp_ge (tgt := 90) hx hb dd (dy + 360) (by omega) (by omega) d_Mo_yearly_46 (by decide) (fun c_46 => ?_) (fun c_46 => ?_)
            · refine lv_iload hx hb d_Mo_yearly_90 (lv_at hl 4 rfl) ?_
              refine lv_iload_n hx hb d_Mo_yearly_92 rfl (lv_at hl 3 rfl) ?_
              refine lv_idiv hx hb d_Mo_yearly_93 (c_23) ?_
              rw [hQ]
              have z9 : (li_has cn (nI pq) && mo_day (nI dy)) = true := by rw [c_10, c_17]; rfl
              have y9 : mo_yr (sn pq) (km pq) dy 361 dy 0 = c0 := by rw [← hR]; exact mo_yr_0 (by omega)
              have q9 : ((nI c0) / z : Int32) = cond (li_has cn (nI pq) && mo_day (nI dy)) (if z = 0 then 0 else nI (mo_yr (sn (nI pq).toNatClampNeg) (km (nI pq).toNatClampNeg) (nI dy).toNatClampNeg 361 (nI dy).toNatClampNeg 0) / z) (-1) := by rw [z9, nI_clamp (show pq < 2 ^ 31 by omega), nI_clamp (show dy < 2 ^ 31 by omega), y9]; exact (if_neg c_23).symm
              have e9 : ([(mm, .inr (5, [.int (cond (li_has cn (nI pq) && mo_day (nI dy)) (if z = 0 then 1 else 0) 0), .ref u1, .int (nI n), .int pv, .int wr, .ref u5, .ref u6, .ref u7, .ref u8, .ref u9, .ref u10, .ref u11, .int (nI cn), .ref u13, .int (nI hc), .ref u15, .ref u16, .ref u17, .ref u18, .ref u19, .ref u20, .int (nI ns), .ref u22, .int (nI pz)])), (u5, .inl (cI, 11, .inl ks)), (u6, .inl (cI, 11, .inl km))] : va_W) = [(mm, .inr (5, [.int 0, .ref u1, .int (nI n), .int pv, .int wr, .ref u5, .ref u6, .ref u7, .ref u8, .ref u9, .ref u10, .ref u11, .int (nI cn), .ref u13, .int (nI hc), .ref u15, .ref u16, .ref u17, .ref u18, .ref u19, .ref u20, .int (nI ns), .ref u22, .int (nI pz)])), (u5, .inl (cI, 11, .inl ks)), (u6, .inl (cI, 11, .inl km))] := by rw [z9] <;> first | rfl | (show [_, _, _] = _; rw [show (cond true (if z = 0 then (1 : Int32) else 0) 0) = 1 from if_pos c_23]) | (show [_, _, _] = _; rw [show (cond true (if z = 0 then (1 : Int32) else 0) 0) = 0 from if_neg c_23])
              exact W.iret (v := (nI c0) / z) hx hb hr (fun t ht hW => ⟨⟨_, (), rfl, q9, by rw [ht, e9]; exact hP, va_K.moved hW.alike hK, by rw [e9]; exact hD⟩, hS.F ht⟩) hS.2.2 d_Mo_yearly_94
            · refine lv_iload hx hb d_Mo_yearly_49 (lv_at hl 5 rfl) ?_
              refine lv_ldc (v := 1000000) hx hb hown (hts _ kw_706) d_Mo_yearly_51 ?_
              refine wy_icmp_gt (tgt := 90) hx hb dd 1000000 (by omega) (by omega) d_Mo_yearly_53 (by decide) (fun c_53 => ?_) (fun c_53 => ?_)
              · refine lv_iload hx hb d_Mo_yearly_90 (lv_at hl 4 rfl) ?_
                refine lv_iload_n hx hb d_Mo_yearly_92 rfl (lv_at hl 3 rfl) ?_
                refine lv_idiv hx hb d_Mo_yearly_93 (c_23) ?_
                rw [hQ]
                have z9 : (li_has cn (nI pq) && mo_day (nI dy)) = true := by rw [c_10, c_17]; rfl
                have y9 : mo_yr (sn pq) (km pq) dy 361 dy 0 = c0 := by rw [← hR]; exact mo_yr_0 (by omega)
                have q9 : ((nI c0) / z : Int32) = cond (li_has cn (nI pq) && mo_day (nI dy)) (if z = 0 then 0 else nI (mo_yr (sn (nI pq).toNatClampNeg) (km (nI pq).toNatClampNeg) (nI dy).toNatClampNeg 361 (nI dy).toNatClampNeg 0) / z) (-1) := by rw [z9, nI_clamp (show pq < 2 ^ 31 by omega), nI_clamp (show dy < 2 ^ 31 by omega), y9]; exact (if_neg c_23).symm
                have e9 : ([(mm, .inr (5, [.int (cond (li_has cn (nI pq) && mo_day (nI dy)) (if z = 0 then 1 else 0) 0), .ref u1, .int (nI n), .int pv, .int wr, .ref u5, .ref u6, .ref u7, .ref u8, .ref u9, .ref u10, .ref u11, .int (nI cn), .ref u13, .int (nI hc), .ref u15, .ref u16, .ref u17, .ref u18, .ref u19, .ref u20, .int (nI ns), .ref u22, .int (nI pz)])), (u5, .inl (cI, 11, .inl ks)), (u6, .inl (cI, 11, .inl km))] : va_W) = [(mm, .inr (5, [.int 0, .ref u1, .int (nI n), .int pv, .int wr, .ref u5, .ref u6, .ref u7, .ref u8, .ref u9, .ref u10, .ref u11, .int (nI cn), .ref u13, .int (nI hc), .ref u15, .ref u16, .ref u17, .ref u18, .ref u19, .ref u20, .int (nI ns), .ref u22, .int (nI pz)])), (u5, .inl (cI, 11, .inl ks)), (u6, .inl (cI, 11, .inl km))] := by rw [z9] <;> first | rfl | (show [_, _, _] = _; rw [show (cond true (if z = 0 then (1 : Int32) else 0) 0) = 1 from if_pos c_23]) | (show [_, _, _] = _; rw [show (cond true (if z = 0 then (1 : Int32) else 0) 0) = 0 from if_neg c_23])
                exact W.iret (v := (nI c0) / z) hx hb hr (fun t ht hW => ⟨⟨_, (), rfl, q9, by rw [ht, e9]; exact hP, va_K.moved hW.alike hK, by rw [e9]; exact hD⟩, hS.F ht⟩) hS.2.2 d_Mo_yearly_94
              · refine lv_iload hx hb d_Mo_yearly_56 (lv_at hl 4 rfl) ?_
                refine lv_aload_n hx hb d_Mo_yearly_58 rfl (lv_at hl 0 rfl) ?_
                refine lv_iload_n hx hb d_Mo_yearly_59 rfl (lv_at hl 1 rfl) ?_
                refine lv_iload hx hb d_Mo_yearly_60 (lv_at hl 5 rfl) ?_
                refine vp_callSi (va_runV (As := [.int (nI pq), .int (nI dd)]) (rest := [.int (nI c0)]) ⟨hx, hb, hml, hown, hts⟩ (c_Mo_has l dC dI mm u1 u5 u6 u7 u8 u9 u10 u11 u13 u15 u16 u17 u18 u19 u20 u22 0 n pv wr cn hc ns pz cI km pq dd (by omega) (by omega)) (cwV 2 hts (ga_V kw_723 kw_725 kw_28 kw_38 (ga_in kw_726)) rfl rfl rfl (by decide +kernel) ⟨Nat.le_of_ble_eq_true rfl, Nat.le_of_ble_eq_true rfl⟩) (wy_preV 0 (hP.sub (ws' := [(mm, .inr (5, [.int 0, .ref u1, .int (nI n), .int pv, .int wr, .ref u5, .ref u6, .ref u7, .ref u8, .ref u9, .ref u10, .ref u11, .int (nI cn), .ref u13, .int (nI hc), .ref u15, .ref u16, .ref u17, .ref u18, .ref u19, .ref u20, .int (nI ns), .ref u22, .int (nI pz)])), (u6, .inl (cI, 11, .inl km))]) [0, 2] rfl) (hK.sub (tys' := [(cI, .int)]) [0] rfl) hN (ci := 5) rfl rfl rfl) rfl rfl hl.1 rfl (lv_room (Nat.le_of_ble_eq_true rfl)) d_Mo_yearly_62 ⟨Nat.le_of_ble_eq_true rfl, Nat.le_of_ble_eq_true rfl⟩).run (fun r_62 h_62 => ?_)
                subst h_62
                refine wy_ifeqB (tgt := 72) hx hb d_Mo_yearly_65 (by decide) (fun c_65 => ?_) (fun c_65 => ?_)
                · refine lv_iconst (v := 0) hx hb d_Mo_yearly_72 (by decide) ?_
                  refine wy_iadd hx hb c0 0 d_Mo_yearly_73 ?_
                  refine lv_istore (lv' := [(4, .int (nI (c0 + 0))), (0, .ref mm), (1, .int (nI pq)), (2, .int (nI dy)), (3, .int z), (5, .int (nI dd))]) hx hb d_Mo_yearly_74 hl (by decide) rfl (fun ls hl => ?_)
                  refine lv_iload hx hb d_Mo_yearly_76 (lv_at hl 5 rfl) ?_
                  refine lv_aload_n hx hb d_Mo_yearly_78 rfl (lv_at hl 1 rfl) ?_
                  refine va_get (D := (dC, dI)) (ci := 5) (v := .ref u5) (C := "PatternTextModel") (T := F_Mo) (N := 24) hx hb hts iw_Mo hown hK hP 0 rfl rfl 5 (by decide) (hts _ kw_565) (fun _ h9 => h9) rfl d_Mo_yearly_79 ?_
                  refine lv_iload_n hx hb d_Mo_yearly_82 rfl (lv_at hl 2 rfl) ?_
                  refine wy_iald hx hb hK hP 1 0 pq rfl rfl (by omega) (by omega) d_Mo_yearly_83 ?_
                  refine wy_cvi (y := nI (sn pq)) (e1) ?_
                  refine wy_iadd hx hb dd (sn pq) d_Mo_yearly_84 ?_
                  refine lv_istore (lv' := [(5, .int (nI (dd + (sn pq)))), (4, .int (nI (c0 + 0))), (0, .ref mm), (1, .int (nI pq)), (2, .int (nI dy)), (3, .int z)]) hx hb d_Mo_yearly_85 hl (by decide) rfl (fun ls hl => ?_)
                  refine lv_goto (tgt := 39) hx hb d_Mo_yearly_87 (by decide) ?_
                  exact ih_39 (k + 1) (dd + (sn pq)) (c0 + 0) (by omega) (by omega) (by omega) (by omega) (by rw [← hR, mo_yr_go (k := k) (by omega), if_pos ⟨c_46, c_53⟩, c_65]; rfl) (by omega) H locs hP hD hS ls (lv_sub hl [2, 3, 4, 5, 1, 0] rfl)
                · refine lv_iconst (v := 1) hx hb d_Mo_yearly_68 (by decide) ?_
                  refine lv_goto (tgt := 73) hx hb d_Mo_yearly_69 (by decide) ?_
                  refine wy_iadd hx hb c0 1 d_Mo_yearly_73 ?_
                  refine lv_istore (lv' := [(4, .int (nI (c0 + 1))), (0, .ref mm), (1, .int (nI pq)), (2, .int (nI dy)), (3, .int z), (5, .int (nI dd))]) hx hb d_Mo_yearly_74 hl (by decide) rfl (fun ls hl => ?_)
                  refine lv_iload hx hb d_Mo_yearly_76 (lv_at hl 5 rfl) ?_
                  refine lv_aload_n hx hb d_Mo_yearly_78 rfl (lv_at hl 1 rfl) ?_
                  refine va_get (D := (dC, dI)) (ci := 5) (v := .ref u5) (C := "PatternTextModel") (T := F_Mo) (N := 24) hx hb hts iw_Mo hown hK hP 0 rfl rfl 5 (by decide) (hts _ kw_565) (fun _ h9 => h9) rfl d_Mo_yearly_79 ?_
                  refine lv_iload_n hx hb d_Mo_yearly_82 rfl (lv_at hl 2 rfl) ?_
                  refine wy_iald hx hb hK hP 1 0 pq rfl rfl (by omega) (by omega) d_Mo_yearly_83 ?_
                  refine wy_cvi (y := nI (sn pq)) (e1) ?_
                  refine wy_iadd hx hb dd (sn pq) d_Mo_yearly_84 ?_
                  refine lv_istore (lv' := [(5, .int (nI (dd + (sn pq)))), (4, .int (nI (c0 + 1))), (0, .ref mm), (1, .int (nI pq)), (2, .int (nI dy)), (3, .int z)]) hx hb d_Mo_yearly_85 hl (by decide) rfl (fun ls hl => ?_)
                  refine lv_goto (tgt := 39) hx hb d_Mo_yearly_87 (by decide) ?_
                  exact ih_39 (k + 1) (dd + (sn pq)) (c0 + 1) (by omega) (by omega) (by omega) (by omega) (by rw [← hR, mo_yr_go (k := k) (by omega), if_pos ⟨c_46, c_53⟩, c_65]; rfl) (by omega) H locs hP hD hS ls (lv_sub hl [2, 3, 4, 5, 1, 0] rfl)
        exact loop_39 _ 0 dy 0 (by omega) (by omega) (by omega) (by omega) (rfl) (Nat.lt_succ_self _) H locs hP hD hS ls (lv_sub hl [2, 3, 4, 5, 1, 0] rfl)
      · refine lv_aload_n hx hb d_Mo_yearly_26 rfl (lv_at hl 0 rfl) ?_
        refine lv_iconst (v := 1) hx hb d_Mo_yearly_27 (by decide) ?_
        refine va_put (D := (dC, dI)) (ci := 5) (v := .int 1) (ty := .int) (C := "PatternTextModel") (T := F_Mo) (N := 24) hx hb hts iw_Mo t_Mo t_Mo_ok n_Mo hown hK hP hD hS 0 rfl rfl 0 (by decide) (hts _ kw_560) (fun _ h9 => h9) rfl (by decide +kernel) rfl rfl (Nat.le_of_ble_eq_true rfl) d_Mo_yearly_28 (fun H locs hP hD hS => ?_)
        have hP : va_P (dC, dI) ga_cl [(mm, .inr (5, [.int 1, .ref u1, .int (nI n), .int pv, .int wr, .ref u5, .ref u6, .ref u7, .ref u8, .ref u9, .ref u10, .ref u11, .int (nI cn), .ref u13, .int (nI hc), .ref u15, .ref u16, .ref u17, .ref u18, .ref u19, .ref u20, .int (nI ns), .ref u22, .int (nI pz)])), (u5, .inl (cI, 11, .inl ks)), (u6, .inl (cI, 11, .inl km))] H := hP
        have hD : va_D A [(mm, .inr (5, [.int 1, .ref u1, .int (nI n), .int pv, .int wr, .ref u5, .ref u6, .ref u7, .ref u8, .ref u9, .ref u10, .ref u11, .int (nI cn), .ref u13, .int (nI hc), .ref u15, .ref u16, .ref u17, .ref u18, .ref u19, .ref u20, .int (nI ns), .ref u22, .int (nI pz)])), (u5, .inl (cI, 11, .inl ks)), (u6, .inl (cI, 11, .inl km))] := hD
        refine lv_iconst (v := 0) hx hb d_Mo_yearly_31 (by decide) ?_
        rw [hQ]
        have z9 : (li_has cn (nI pq) && mo_day (nI dy)) = true := by rw [c_10, c_17]; rfl
        have q9 : (0 : Int32) = cond (li_has cn (nI pq) && mo_day (nI dy)) (if z = 0 then 0 else nI (mo_yr (sn (nI pq).toNatClampNeg) (km (nI pq).toNatClampNeg) (nI dy).toNatClampNeg 361 (nI dy).toNatClampNeg 0) / z) (-1) := by rw [z9]; exact (if_pos c_23).symm
        have e9 : ([(mm, .inr (5, [.int (cond (li_has cn (nI pq) && mo_day (nI dy)) (if z = 0 then 1 else 0) 0), .ref u1, .int (nI n), .int pv, .int wr, .ref u5, .ref u6, .ref u7, .ref u8, .ref u9, .ref u10, .ref u11, .int (nI cn), .ref u13, .int (nI hc), .ref u15, .ref u16, .ref u17, .ref u18, .ref u19, .ref u20, .int (nI ns), .ref u22, .int (nI pz)])), (u5, .inl (cI, 11, .inl ks)), (u6, .inl (cI, 11, .inl km))] : va_W) = [(mm, .inr (5, [.int 1, .ref u1, .int (nI n), .int pv, .int wr, .ref u5, .ref u6, .ref u7, .ref u8, .ref u9, .ref u10, .ref u11, .int (nI cn), .ref u13, .int (nI hc), .ref u15, .ref u16, .ref u17, .ref u18, .ref u19, .ref u20, .int (nI ns), .ref u22, .int (nI pz)])), (u5, .inl (cI, 11, .inl ks)), (u6, .inl (cI, 11, .inl km))] := by rw [z9] <;> first | rfl | (show [_, _, _] = _; rw [show (cond true (if z = 0 then (1 : Int32) else 0) 0) = 1 from if_pos c_23]) | (show [_, _, _] = _; rw [show (cond true (if z = 0 then (1 : Int32) else 0) 0) = 0 from if_neg c_23])
        exact W.iret (v := 0) hx hb hr (fun t ht hW => ⟨⟨_, (), rfl, q9, by rw [ht, e9]; exact hP, va_K.moved hW.alike hK, by rw [e9]; exact hD⟩, hS.F ht⟩) hS.2.2 d_Mo_yearly_32
    · refine lv_iconst (v := -1) hx hb d_Mo_yearly_20 (by decide) ?_
      rw [hQ]
      have z9 : (li_has cn (nI pq) && mo_day y) = false := by rw [c_10, c_17]; rfl
      have q9 : ((-1) : Int32) = cond (li_has cn (nI pq) && mo_day y) (if z = 0 then 0 else nI (mo_yr (sn (nI pq).toNatClampNeg) (km (nI pq).toNatClampNeg) y.toNatClampNeg 361 y.toNatClampNeg 0) / z) (-1) := by rw [z9]; rfl
      have e9 : ([(mm, .inr (5, [.int (cond (li_has cn (nI pq) && mo_day y) (if z = 0 then 1 else 0) 0), .ref u1, .int (nI n), .int pv, .int wr, .ref u5, .ref u6, .ref u7, .ref u8, .ref u9, .ref u10, .ref u11, .int (nI cn), .ref u13, .int (nI hc), .ref u15, .ref u16, .ref u17, .ref u18, .ref u19, .ref u20, .int (nI ns), .ref u22, .int (nI pz)])), (u5, .inl (cI, 11, .inl ks)), (u6, .inl (cI, 11, .inl km))] : va_W) = [(mm, .inr (5, [.int 0, .ref u1, .int (nI n), .int pv, .int wr, .ref u5, .ref u6, .ref u7, .ref u8, .ref u9, .ref u10, .ref u11, .int (nI cn), .ref u13, .int (nI hc), .ref u15, .ref u16, .ref u17, .ref u18, .ref u19, .ref u20, .int (nI ns), .ref u22, .int (nI pz)])), (u5, .inl (cI, 11, .inl ks)), (u6, .inl (cI, 11, .inl km))] := by rw [z9] <;> first | rfl | (show [_, _, _] = _; rw [show (cond true (if z = 0 then (1 : Int32) else 0) 0) = 1 from if_pos c_23]) | (show [_, _, _] = _; rw [show (cond true (if z = 0 then (1 : Int32) else 0) 0) = 0 from if_neg c_23])
      exact W.iret (v := (-1)) hx hb hr (fun t ht hW => ⟨⟨_, (), rfl, q9, by rw [ht, e9]; exact hP, va_K.moved hW.alike hK, by rw [e9]; exact hD⟩, hS.F ht⟩) hS.2.2 d_Mo_yearly_21
