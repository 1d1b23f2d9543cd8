set_option maxHeartbeats 4000000 in
set_option maxRecDepth 100000 in
theorem c_Pt_init (l : Launch) (dC : Nat → ClassId) (dI : Nat → Nat → Nat) (sz : Nat) (pa : Nat) (k1 : Int32) (ps : Nat) (k3 : Int32) (k4 : Int32) (k5 : Int32) (k6 : Int32) (re : Bool) : Met l y_Pt_init w_Pt_init ({ frames := 1, cells := 0, slots := 0, locals := 12 }) (va_Pc [.ref pa, .int k1, .ref ps, .int k3, .int k4, .int k5, .int k6, .int (bo_I re)] (wy_M (dC, dI) ga_cl [(pa, .inr (2, [.int 0, .null, .int 0, .int 0, .int 0, .int 0, .int 0]))] [] sz)) (va_Qv (fun (_ : Unit) => True) (fun _ => wy_N (dC, dI) ga_cl [] (va_A [(pa, .inr (2, [.int 0, .null, .int 0, .int 0, .int 0, .int 0, .int 0]))] sz) [(pa, .inr (2, [.int k1, .ref ps, .int k3, .int k4, .int k5, .int k6, .int (bo_I re)]))]) (va_A [(pa, .inr (2, [.int 0, .null, .int 0, .int 0, .int 0, .int 0, .int 0]))] sz)) 0 0 (va_A [(pa, .inr (2, [.int 0, .null, .int 0, .int 0, .int 0, .int 0, .int 0]))] sz) := by
  refine Met.ofW (cc := b_Pt_init) (maxL := 8) (ret := none) (by decide) rfl ?_
  intro p e s m args below meth c s₁ B hml hv
  obtain ⟨rfl, hsz, hP, hK, hN, hD0⟩ := hv
  have hx := B.exec
  have hb := B.bytes
  have hr := B.returns
  have hts : ∀ w ∈ ga_tbl, w.before _ s = true := fun w h => atoms_spec (ws := w_Pt_init) B.pre w (List.mem_cons_of_mem _ h)
  have hown : s.vm.findClass "PatternText$Pattern" = some m.cls := findClass_of_methodNamed B.named
  have hlocks := B.notSynchronized
  have hin : meth.name = "<init>" := (name_of_methodNamed B.named B.method).1
  subst hsz
  have hD := hD0.self (sz := s.heap.size)
  generalize hAe : va_A [(pa, .inr (2, [.int 0, .null, .int 0, .int 0, .int 0, .int 0, .int 0]))] s.heap.size = A at hD ⊢
  have hA : ∀ q : Nat, s.heap.size ≤ q → A q := fun q h => by rw [← hAe]; exact Or.inr h
  have hS : va_S A s.heap s.heap [] := va_S.rf
  have hl := lv_entry ([.ref pa, .int k1, .ref ps, .int k3, .int k4, .int k5, .int k6, .int (bo_I re)]) (n := 8) (Nat.le_of_ble_eq_true rfl)
  rw [lg_entry_eq]
  generalize (lg_sl ([.ref pa, .int k1, .ref ps, .int k3, .int k4, .int k5, .int k6, .int (bo_I re)]) ++ List.replicate (8 - (lg_sl ([.ref pa, .int k1, .ref ps, .int k3, .int k4, .int k5, .int k6, .int (bo_I re)])).length) Slot.unset).toArray = ls at hl ⊢
  have hl : lv_has ls 8 [(0, .ref pa), (1, .int k1), (2, .ref ps), (3, .int k3), (4, .int k4), (5, .int k5), (6, .int k6), (7, .int (bo_I re))] := hl
  obtain ⟨Q0, hQ⟩ : ∃ Q0 : State → Prop, Q0 = MQ below (va_Qv (fun (_ : Unit) => True) (fun _ => wy_N (dC, dI) ga_cl [] A [(pa, .inr (2, [.int k1, .ref ps, .int k3, .int k4, .int k5, .int k6, .int (bo_I re)]))]) A) ([.ref pa, .int k1, .ref ps, .int k3, .int k4, .int k5, .int k6, .int (bo_I re)] : List Value).toArray s 0 0 A := ⟨_, rfl⟩
  show W p l e ({ frames := 1, cells := 0, slots := 0, locals := 12 }) s m ([.ref pa, .int k1, .ref ps, .int k3, .int k4, .int k5, .int k6, .int (bo_I re)] : List Value).toArray below meth c s.heap [] 0 0 (MQ below (va_Qv (fun (_ : Unit) => True) (fun _ => wy_N (dC, dI) ga_cl [] A [(pa, .inr (2, [.int k1, .ref ps, .int k3, .int k4, .int k5, .int k6, .int (bo_I re)]))]) A) ([.ref pa, .int k1, .ref ps, .int k3, .int k4, .int k5, .int k6, .int (bo_I re)] : List Value).toArray s 0 0 A) (F0 m 0 ls [])
  rw [← hQ]
  refine lv_aload_n hx hb d_Pt_init_0 rfl (lv_at hl 0 rfl) ?_
  refine W.objInit hx hb hown (hts _ kw_311) (hts _ kw_56) (hts _ kw_57) rfl (by rw [hml]; exact hl.1) rfl d_Pt_init_1 (Nat.le_of_ble_eq_true rfl) (Nat.le_of_ble_eq_true rfl) ?_
  refine W.eq (g2 := F0 m 4 ls []) rfl ?_
  refine lv_aload_n hx hb d_Pt_init_4 rfl (lv_at hl 0 rfl) ?_
  refine lv_iload_n hx hb d_Pt_init_5 rfl (lv_at hl 1 rfl) ?_
  refine va_putF (D := (dC, dI)) (ci := 2) (v := .int k1) (ty := .int) (C := "PatternText$Pattern") (T := F_Pt) (N := 7) hx hb hts iw_Pt t_Pt t_Pt_ok n_Pt hown hK hP hD hS 0 rfl rfl 0 (by decide) (hts _ kw_312) (fun _ h9 => h9) rfl hin rfl (by decide +kernel) rfl rfl (Nat.le_of_ble_eq_true rfl) d_Pt_init_6 (fun H locs hP hD hS => ?_)
  have hP : va_P (dC, dI) ga_cl [(pa, .inr (2, [.int k1, .null, .int 0, .int 0, .int 0, .int 0, .int 0]))] H := hP
  have hD : va_D A [(pa, .inr (2, [.int k1, .null, .int 0, .int 0, .int 0, .int 0, .int 0]))] := hD
  refine lv_aload_n hx hb d_Pt_init_9 rfl (lv_at hl 0 rfl) ?_
  refine lv_aload_n hx hb d_Pt_init_10 rfl (lv_at hl 2 rfl) ?_
  refine va_putF (D := (dC, dI)) (ci := 2) (v := .ref ps) (ty := .array .int) (C := "PatternText$Pattern") (T := F_Pt) (N := 7) hx hb hts iw_Pt t_Pt t_Pt_ok n_Pt hown hK hP hD hS 0 rfl rfl 1 (by decide) (hts _ kw_314) (fun _ h9 => h9) rfl hin rfl (by decide +kernel) rfl rfl (Nat.le_of_ble_eq_true rfl) d_Pt_init_11 (fun H locs hP hD hS => ?_)
  have hP : va_P (dC, dI) ga_cl [(pa, .inr (2, [.int k1, .ref ps, .int 0, .int 0, .int 0, .int 0, .int 0]))] H := hP
  have hD : va_D A [(pa, .inr (2, [.int k1, .ref ps, .int 0, .int 0, .int 0, .int 0, .int 0]))] := hD
  refine lv_aload_n hx hb d_Pt_init_14 rfl (lv_at hl 0 rfl) ?_
  refine lv_iload_n hx hb d_Pt_init_15 rfl (lv_at hl 3 rfl) ?_
  refine va_putF (D := (dC, dI)) (ci := 2) (v := .int k3) (ty := .int) (C := "PatternText$Pattern") (T := F_Pt) (N := 7) hx hb hts iw_Pt t_Pt t_Pt_ok n_Pt hown hK hP hD hS 0 rfl rfl 2 (by decide) (hts _ kw_316) (fun _ h9 => h9) rfl hin rfl (by decide +kernel) rfl rfl (Nat.le_of_ble_eq_true rfl) d_Pt_init_16 (fun H locs hP hD hS => ?_)
  have hP : va_P (dC, dI) ga_cl [(pa, .inr (2, [.int k1, .ref ps, .int k3, .int 0, .int 0, .int 0, .int 0]))] H := hP
  have hD : va_D A [(pa, .inr (2, [.int k1, .ref ps, .int k3, .int 0, .int 0, .int 0, .int 0]))] := hD
  refine lv_aload_n hx hb d_Pt_init_19 rfl (lv_at hl 0 rfl) ?_
  refine lv_iload hx hb d_Pt_init_20 (lv_at hl 4 rfl) ?_
  refine va_putF (D := (dC, dI)) (ci := 2) (v := .int k4) (ty := .int) (C := "PatternText$Pattern") (T := F_Pt) (N := 7) hx hb hts iw_Pt t_Pt t_Pt_ok n_Pt hown hK hP hD hS 0 rfl rfl 3 (by decide) (hts _ kw_318) (fun _ h9 => h9) rfl hin rfl (by decide +kernel) rfl rfl (Nat.le_of_ble_eq_true rfl) d_Pt_init_22 (fun H locs hP hD hS => ?_)
  have hP : va_P (dC, dI) ga_cl [(pa, .inr (2, [.int k1, .ref ps, .int k3, .int k4, .int 0, .int 0, .int 0]))] H := hP
  have hD : va_D A [(pa, .inr (2, [.int k1, .ref ps, .int k3, .int k4, .int 0, .int 0, .int 0]))] := hD
  refine lv_aload_n hx hb d_Pt_init_25 rfl (lv_at hl 0 rfl) ?_
  refine lv_iload hx hb d_Pt_init_26 (lv_at hl 5 rfl) ?_
  refine va_putF (D := (dC, dI)) (ci := 2) (v := .int k5) (ty := .int) (C := "PatternText$Pattern") (T := F_Pt) (N := 7) hx hb hts iw_Pt t_Pt t_Pt_ok n_Pt hown hK hP hD hS 0 rfl rfl 4 (by decide) (hts _ kw_319) (fun _ h9 => h9) rfl hin rfl (by decide +kernel) rfl rfl (Nat.le_of_ble_eq_true rfl) d_Pt_init_28 (fun H locs hP hD hS => ?_)
  have hP : va_P (dC, dI) ga_cl [(pa, .inr (2, [.int k1, .ref ps, .int k3, .int k4, .int k5, .int 0, .int 0]))] H := hP
  have hD : va_D A [(pa, .inr (2, [.int k1, .ref ps, .int k3, .int k4, .int k5, .int 0, .int 0]))] := hD
  refine lv_aload_n hx hb d_Pt_init_31 rfl (lv_at hl 0 rfl) ?_
  refine lv_iload hx hb d_Pt_init_32 (lv_at hl 6 rfl) ?_
  refine va_putF (D := (dC, dI)) (ci := 2) (v := .int k6) (ty := .int) (C := "PatternText$Pattern") (T := F_Pt) (N := 7) hx hb hts iw_Pt t_Pt t_Pt_ok n_Pt hown hK hP hD hS 0 rfl rfl 5 (by decide) (hts _ kw_320) (fun _ h9 => h9) rfl hin rfl (by decide +kernel) rfl rfl (Nat.le_of_ble_eq_true rfl) d_Pt_init_34 (fun H locs hP hD hS => ?_)
  have hP : va_P (dC, dI) ga_cl [(pa, .inr (2, [.int k1, .ref ps, .int k3, .int k4, .int k5, .int k6, .int 0]))] H := hP
  have hD : va_D A [(pa, .inr (2, [.int k1, .ref ps, .int k3, .int k4, .int k5, .int k6, .int 0]))] := hD
  refine lv_aload_n hx hb d_Pt_init_37 rfl (lv_at hl 0 rfl) ?_
  refine lv_iload hx hb d_Pt_init_38 (lv_at hl 7 rfl) ?_
  refine va_putF (D := (dC, dI)) (ci := 2) (v := .int (bo_I re)) (ty := .boolean) (C := "PatternText$Pattern") (T := F_Pt) (N := 7) hx hb hts iw_Pt t_Pt t_Pt_ok n_Pt hown hK hP hD hS 0 rfl rfl 6 (by decide) (hts _ kw_321) (fun _ h9 => h9) rfl hin rfl (by decide +kernel) (bo_nar _) (bo_fit _) (Nat.le_of_ble_eq_true rfl) d_Pt_init_40 (fun H locs hP hD hS => ?_)
  have hP : va_P (dC, dI) ga_cl [(pa, .inr (2, [.int k1, .ref ps, .int k3, .int k4, .int k5, .int k6, .int (bo_I re)]))] H := hP
  have hD : va_D A [(pa, .inr (2, [.int k1, .ref ps, .int k3, .int k4, .int k5, .int k6, .int (bo_I re)]))] := hD
  rw [hQ]
  have e9 : ([(pa, .inr (2, [.int k1, .ref ps, .int k3, .int k4, .int k5, .int k6, .int (bo_I re)]))] : va_W) = [(pa, .inr (2, [.int k1, .ref ps, .int k3, .int k4, .int k5, .int k6, .int (bo_I re)]))] := by rfl
  exact W.vret hx hb hr (fun t ht hW => ⟨⟨(), rfl, trivial, by rw [ht, e9]; exact hP, va_K.moved hW.alike hK, by rw [e9]; exact hD⟩, hS.F ht⟩) hS.2.2 d_Pt_init_43

set_option maxHeartbeats 4000000 in
set_option maxRecDepth 100000 in
theorem c_Rd_init (l : Launch) (dC : Nat → ClassId) (dI : Nat → Nat → Nat) (sz : Nat) (rd : Nat) : Met l y_Rd_init w_Rd_init ({ frames := 1, cells := 1, slots := 120, locals := 12 }) (va_Pc [.ref rd] (wy_M (dC, dI) ga_cl [(rd, .inr (3, [.null, .int 0, .int 0, .int 0, .int 0, .int 0, .int 0, .int 0, .int 0]))] [] sz)) (va_Qv (fun (_ : (Nat → Nat) × (Nat → ClassId)) => True) (fun u => wy_N (dC, dI) ga_cl [((u.2 0), .int)] (va_A [(rd, .inr (3, [.null, .int 0, .int 0, .int 0, .int 0, .int 0, .int 0, .int 0, .int 0]))] sz) [(rd, .inr (3, [.ref (u.1 0), .int 0, .int 0, .int 0, .int 0, .int 0, .int 0, .int 0, .int 0])), ((u.1 0), .inl ((u.2 0), 120, .inl (fun _ => 0)))]) (va_A [(rd, .inr (3, [.null, .int 0, .int 0, .int 0, .int 0, .int 0, .int 0, .int 0, .int 0]))] sz)) 1 120 (va_A [(rd, .inr (3, [.null, .int 0, .int 0, .int 0, .int 0, .int 0, .int 0, .int 0, .int 0]))] sz) := by
  refine Met.ofW (cc := b_Rd_init) (maxL := 1) (ret := none) (by decide) rfl ?_
  intro p e s m args below meth c s₁ B hml hv
  obtain ⟨rfl, hsz, hP, hK, hN, hD0⟩ := hv
  have hx := B.exec
  have hb := B.bytes
  have hr := B.returns
  have hts : ∀ w ∈ ga_tbl, w.before _ s = true := fun w h => atoms_spec (ws := w_Rd_init) B.pre w (List.mem_cons_of_mem _ h)
  have hown : s.vm.findClass "PatternText$PatternReader" = some m.cls := findClass_of_methodNamed B.named
  have hlocks := B.notSynchronized
  have hin : meth.name = "<init>" := (name_of_methodNamed B.named B.method).1
  subst hsz
  have hD := hD0.self (sz := s.heap.size)
  generalize hAe : va_A [(rd, .inr (3, [.null, .int 0, .int 0, .int 0, .int 0, .int 0, .int 0, .int 0, .int 0]))] s.heap.size = A at hD ⊢
  have hA : ∀ q : Nat, s.heap.size ≤ q → A q := fun q h => by rw [← hAe]; exact Or.inr h
  have hS : va_S A s.heap s.heap [] := va_S.rf
  have hl := lv_entry ([.ref rd]) (n := 1) (Nat.le_of_ble_eq_true rfl)
  rw [lg_entry_eq]
  generalize (lg_sl ([.ref rd]) ++ List.replicate (1 - (lg_sl ([.ref rd])).length) Slot.unset).toArray = ls at hl ⊢
  have hl : lv_has ls 1 [(0, .ref rd)] := hl
  obtain ⟨Q0, hQ⟩ : ∃ Q0 : State → Prop, Q0 = MQ below (va_Qv (fun (_ : (Nat → Nat) × (Nat → ClassId)) => True) (fun u => wy_N (dC, dI) ga_cl [((u.2 0), .int)] A [(rd, .inr (3, [.ref (u.1 0), .int 0, .int 0, .int 0, .int 0, .int 0, .int 0, .int 0, .int 0])), ((u.1 0), .inl ((u.2 0), 120, .inl (fun _ => 0)))]) A) ([.ref rd] : List Value).toArray s 1 120 A := ⟨_, rfl⟩
  show W p l e ({ frames := 1, cells := 1, slots := 120, locals := 12 }) s m ([.ref rd] : List Value).toArray below meth c s.heap [] 0 0 (MQ below (va_Qv (fun (_ : (Nat → Nat) × (Nat → ClassId)) => True) (fun u => wy_N (dC, dI) ga_cl [((u.2 0), .int)] A [(rd, .inr (3, [.ref (u.1 0), .int 0, .int 0, .int 0, .int 0, .int 0, .int 0, .int 0, .int 0])), ((u.1 0), .inl ((u.2 0), 120, .inl (fun _ => 0)))]) A) ([.ref rd] : List Value).toArray s 1 120 A) (F0 m 0 ls [])
  rw [← hQ]
  refine lv_aload_n hx hb d_Rd_init_0 rfl (lv_at hl 0 rfl) ?_
  refine W.objInit hx hb hown (hts _ kw_63) (hts _ kw_56) (hts _ kw_57) rfl (by rw [hml]; exact hl.1) rfl d_Rd_init_1 (Nat.le_of_ble_eq_true rfl) (Nat.le_of_ble_eq_true rfl) ?_
  refine W.eq (g2 := F0 m 4 ls []) rfl ?_
  refine lv_aload_n hx hb d_Rd_init_4 rfl (lv_at hl 0 rfl) ?_
  refine lv_bipush (v := 120) hx hb d_Rd_init_5 (by decide) ?_
  refine va_newa (atype := .int) (ty := .int) (n := 120) (N' := 120) (a0 := (120, .inl (fun _ => 0))) hx hb (hts _ kw_93) rfl hK hP hD hS hA (fun _ => rfl) (by decide) (by decide) (by decide) (Nat.le_of_ble_eq_true rfl) (Nat.le_of_ble_eq_true rfl) d_Rd_init_7 (fun q_7 cA_7 H hK hP hD hS => ?_)
  have hP : va_P (dC, dI) ga_cl [(rd, .inr (3, [.null, .int 0, .int 0, .int 0, .int 0, .int 0, .int 0, .int 0, .int 0])), (q_7, .inl (cA_7, 120, .inl (fun _ => 0)))] H := hP
  have hD : va_D A [(rd, .inr (3, [.null, .int 0, .int 0, .int 0, .int 0, .int 0, .int 0, .int 0, .int 0])), (q_7, .inl (cA_7, 120, .inl (fun _ => 0)))] := hD
  have hK : va_K (dC, dI) ga_cl [(cA_7, .int)] s := hK
  refine va_putF (D := (dC, dI)) (ci := 3) (v := .ref q_7) (ty := .array .int) (C := "PatternText$PatternReader") (T := F_Rd) (N := 9) hx hb hts iw_Rd t_Rd t_Rd_ok n_Rd hown hK hP hD hS 0 rfl rfl 0 (by decide) (hts _ kw_64) (fun _ h9 => h9) rfl hin rfl (by decide +kernel) rfl rfl (Nat.le_of_ble_eq_true rfl) d_Rd_init_9 (fun H locs hP hD hS => ?_)
  have hP : va_P (dC, dI) ga_cl [(rd, .inr (3, [.ref q_7, .int 0, .int 0, .int 0, .int 0, .int 0, .int 0, .int 0, .int 0])), (q_7, .inl (cA_7, 120, .inl (fun _ => 0)))] H := hP
  have hD : va_D A [(rd, .inr (3, [.ref q_7, .int 0, .int 0, .int 0, .int 0, .int 0, .int 0, .int 0, .int 0])), (q_7, .inl (cA_7, 120, .inl (fun _ => 0)))] := hD
  refine lv_aload_n hx hb d_Rd_init_12 rfl (lv_at hl 0 rfl) ?_
  refine lv_iconst (v := 0) hx hb d_Rd_init_13 (by decide) ?_
  refine va_put (D := (dC, dI)) (ci := 3) (v := .int 0) (ty := .int) (C := "PatternText$PatternReader") (T := F_Rd) (N := 9) hx hb hts iw_Rd t_Rd t_Rd_ok n_Rd hown hK hP hD hS 0 rfl rfl 1 (by decide) (hts _ kw_65) (fun _ h9 => h9) rfl (by decide +kernel) rfl rfl (Nat.le_of_ble_eq_true rfl) d_Rd_init_14 (fun H locs hP hD hS => ?_)
  have hP : va_P (dC, dI) ga_cl [(rd, .inr (3, [.ref q_7, .int 0, .int 0, .int 0, .int 0, .int 0, .int 0, .int 0, .int 0])), (q_7, .inl (cA_7, 120, .inl (fun _ => 0)))] H := hP
  have hD : va_D A [(rd, .inr (3, [.ref q_7, .int 0, .int 0, .int 0, .int 0, .int 0, .int 0, .int 0, .int 0])), (q_7, .inl (cA_7, 120, .inl (fun _ => 0)))] := hD
  refine lv_aload_n hx hb d_Rd_init_17 rfl (lv_at hl 0 rfl) ?_
  refine lv_iconst (v := 0) hx hb d_Rd_init_18 (by decide) ?_
  refine va_put (D := (dC, dI)) (ci := 3) (v := .int 0) (ty := .int) (C := "PatternText$PatternReader") (T := F_Rd) (N := 9) hx hb hts iw_Rd t_Rd t_Rd_ok n_Rd hown hK hP hD hS 0 rfl rfl 2 (by decide) (hts _ kw_66) (fun _ h9 => h9) rfl (by decide +kernel) rfl rfl (Nat.le_of_ble_eq_true rfl) d_Rd_init_19 (fun H locs hP hD hS => ?_)
  have hP : va_P (dC, dI) ga_cl [(rd, .inr (3, [.ref q_7, .int 0, .int 0, .int 0, .int 0, .int 0, .int 0, .int 0, .int 0])), (q_7, .inl (cA_7, 120, .inl (fun _ => 0)))] H := hP
  have hD : va_D A [(rd, .inr (3, [.ref q_7, .int 0, .int 0, .int 0, .int 0, .int 0, .int 0, .int 0, .int 0])), (q_7, .inl (cA_7, 120, .inl (fun _ => 0)))] := hD
  refine lv_aload_n hx hb d_Rd_init_22 rfl (lv_at hl 0 rfl) ?_
  refine lv_iconst (v := 0) hx hb d_Rd_init_23 (by decide) ?_
  refine va_put (D := (dC, dI)) (ci := 3) (v := .int 0) (ty := .int) (C := "PatternText$PatternReader") (T := F_Rd) (N := 9) hx hb hts iw_Rd t_Rd t_Rd_ok n_Rd hown hK hP hD hS 0 rfl rfl 3 (by decide) (hts _ kw_68) (fun _ h9 => h9) rfl (by decide +kernel) rfl rfl (Nat.le_of_ble_eq_true rfl) d_Rd_init_24 (fun H locs hP hD hS => ?_)
  have hP : va_P (dC, dI) ga_cl [(rd, .inr (3, [.ref q_7, .int 0, .int 0, .int 0, .int 0, .int 0, .int 0, .int 0, .int 0])), (q_7, .inl (cA_7, 120, .inl (fun _ => 0)))] H := hP
  have hD : va_D A [(rd, .inr (3, [.ref q_7, .int 0, .int 0, .int 0, .int 0, .int 0, .int 0, .int 0, .int 0])), (q_7, .inl (cA_7, 120, .inl (fun _ => 0)))] := hD
  refine lv_aload_n hx hb d_Rd_init_27 rfl (lv_at hl 0 rfl) ?_
  refine lv_iconst (v := 0) hx hb d_Rd_init_28 (by decide) ?_
  refine va_put (D := (dC, dI)) (ci := 3) (v := .int 0) (ty := .int) (C := "PatternText$PatternReader") (T := F_Rd) (N := 9) hx hb hts iw_Rd t_Rd t_Rd_ok n_Rd hown hK hP hD hS 0 rfl rfl 4 (by decide) (hts _ kw_69) (fun _ h9 => h9) rfl (by decide +kernel) rfl rfl (Nat.le_of_ble_eq_true rfl) d_Rd_init_29 (fun H locs hP hD hS => ?_)
  have hP : va_P (dC, dI) ga_cl [(rd, .inr (3, [.ref q_7, .int 0, .int 0, .int 0, .int 0, .int 0, .int 0, .int 0, .int 0])), (q_7, .inl (cA_7, 120, .inl (fun _ => 0)))] H := hP
  have hD : va_D A [(rd, .inr (3, [.ref q_7, .int 0, .int 0, .int 0, .int 0, .int 0, .int 0, .int 0, .int 0])), (q_7, .inl (cA_7, 120, .inl (fun _ => 0)))] := hD
  refine lv_aload_n hx hb d_Rd_init_32 rfl (lv_at hl 0 rfl) ?_
  refine lv_iconst (v := 0) hx hb d_Rd_init_33 (by decide) ?_
  refine va_put (D := (dC, dI)) (ci := 3) (v := .int 0) (ty := .int) (C := "PatternText$PatternReader") (T := F_Rd) (N := 9) hx hb hts iw_Rd t_Rd t_Rd_ok n_Rd hown hK hP hD hS 0 rfl rfl 5 (by decide) (hts _ kw_70) (fun _ h9 => h9) rfl (by decide +kernel) rfl rfl (Nat.le_of_ble_eq_true rfl) d_Rd_init_34 (fun H locs hP hD hS => ?_)
  have hP : va_P (dC, dI) ga_cl [(rd, .inr (3, [.ref q_7, .int 0, .int 0, .int 0, .int 0, .int 0, .int 0, .int 0, .int 0])), (q_7, .inl (cA_7, 120, .inl (fun _ => 0)))] H := hP
  have hD : va_D A [(rd, .inr (3, [.ref q_7, .int 0, .int 0, .int 0, .int 0, .int 0, .int 0, .int 0, .int 0])), (q_7, .inl (cA_7, 120, .inl (fun _ => 0)))] := hD
  refine lv_aload_n hx hb d_Rd_init_37 rfl (lv_at hl 0 rfl) ?_
  refine lv_iconst (v := 0) hx hb d_Rd_init_38 (by decide) ?_
  refine va_put (D := (dC, dI)) (ci := 3) (v := .int 0) (ty := .int) (C := "PatternText$PatternReader") (T := F_Rd) (N := 9) hx hb hts iw_Rd t_Rd t_Rd_ok n_Rd hown hK hP hD hS 0 rfl rfl 6 (by decide) (hts _ kw_71) (fun _ h9 => h9) rfl (by decide +kernel) rfl rfl (Nat.le_of_ble_eq_true rfl) d_Rd_init_39 (fun H locs hP hD hS => ?_)
  have hP : va_P (dC, dI) ga_cl [(rd, .inr (3, [.ref q_7, .int 0, .int 0, .int 0, .int 0, .int 0, .int 0, .int 0, .int 0])), (q_7, .inl (cA_7, 120, .inl (fun _ => 0)))] H := hP
  have hD : va_D A [(rd, .inr (3, [.ref q_7, .int 0, .int 0, .int 0, .int 0, .int 0, .int 0, .int 0, .int 0])), (q_7, .inl (cA_7, 120, .inl (fun _ => 0)))] := hD
  refine lv_aload_n hx hb d_Rd_init_42 rfl (lv_at hl 0 rfl) ?_
  refine lv_iconst (v := 0) hx hb d_Rd_init_43 (by decide) ?_
  refine va_put (D := (dC, dI)) (ci := 3) (v := .int 0) (ty := .int) (C := "PatternText$PatternReader") (T := F_Rd) (N := 9) hx hb hts iw_Rd t_Rd t_Rd_ok n_Rd hown hK hP hD hS 0 rfl rfl 7 (by decide) (hts _ kw_72) (fun _ h9 => h9) rfl (by decide +kernel) rfl rfl (Nat.le_of_ble_eq_true rfl) d_Rd_init_44 (fun H locs hP hD hS => ?_)
  have hP : va_P (dC, dI) ga_cl [(rd, .inr (3, [.ref q_7, .int 0, .int 0, .int 0, .int 0, .int 0, .int 0, .int 0, .int 0])), (q_7, .inl (cA_7, 120, .inl (fun _ => 0)))] H := hP
  have hD : va_D A [(rd, .inr (3, [.ref q_7, .int 0, .int 0, .int 0, .int 0, .int 0, .int 0, .int 0, .int 0])), (q_7, .inl (cA_7, 120, .inl (fun _ => 0)))] := hD
  refine lv_aload_n hx hb d_Rd_init_47 rfl (lv_at hl 0 rfl) ?_
  refine lv_iconst (v := 0) hx hb d_Rd_init_48 (by decide) ?_
  refine va_put (D := (dC, dI)) (ci := 3) (v := .int 0) (ty := .boolean) (C := "PatternText$PatternReader") (T := F_Rd) (N := 9) hx hb hts iw_Rd t_Rd t_Rd_ok n_Rd hown hK hP hD hS 0 rfl rfl 8 (by decide) (hts _ kw_73) (fun _ h9 => h9) rfl (by decide +kernel) rfl rfl (Nat.le_of_ble_eq_true rfl) d_Rd_init_49 (fun H locs hP hD hS => ?_)
  have hP : va_P (dC, dI) ga_cl [(rd, .inr (3, [.ref q_7, .int 0, .int 0, .int 0, .int 0, .int 0, .int 0, .int 0, .int 0])), (q_7, .inl (cA_7, 120, .inl (fun _ => 0)))] H := hP
  have hD : va_D A [(rd, .inr (3, [.ref q_7, .int 0, .int 0, .int 0, .int 0, .int 0, .int 0, .int 0, .int 0])), (q_7, .inl (cA_7, 120, .inl (fun _ => 0)))] := hD
  rw [hQ]
  refine W.widen (k := 1) (n := 120) (by show 1 ≤ 1; omega) (by show 120 ≤ 120; omega) ?_
  exact W.vret hx hb hr (fun t ht hW => ⟨⟨(fun k => match k with | _ => q_7, fun k => match k with | _ => cA_7), rfl, trivial, by rw [ht]; exact hP, va_K.moved hW.alike hK, hD⟩, hS.F ht⟩) hS.2.2 d_Rd_init_52

set_option maxHeartbeats 4000000 in
set_option maxRecDepth 100000 in
theorem c_Ho_init (l : Launch) (dC : Nat → ClassId) (dI : Nat → Nat → Nat) (sz : Nat) (ho : Nat) : Met l y_Ho_init w_Ho_init ({ frames := 1, cells := 1, slots := 60, locals := 12 }) (va_Pc [.ref ho] (wy_M (dC, dI) ga_cl [(ho, .inr (0, [.null, .int 0]))] [] sz)) (va_Qv (fun (_ : (Nat → Nat) × (Nat → ClassId)) => True) (fun u => wy_N (dC, dI) ga_cl [((u.2 0), .int)] (va_A [(ho, .inr (0, [.null, .int 0]))] sz) [(ho, .inr (0, [.ref (u.1 0), .int 0])), ((u.1 0), .inl ((u.2 0), 60, .inl (fun _ => 0)))]) (va_A [(ho, .inr (0, [.null, .int 0]))] sz)) 1 60 (va_A [(ho, .inr (0, [.null, .int 0]))] sz) := by
  refine Met.ofW (cc := b_Ho_init) (maxL := 1) (ret := none) (by decide) rfl ?_
  intro p e s m args below meth c s₁ B hml hv
  obtain ⟨rfl, hsz, hP, hK, hN, hD0⟩ := hv
  have hx := B.exec
  have hb := B.bytes
  have hr := B.returns
  have hts : ∀ w ∈ ga_tbl, w.before _ s = true := fun w h => atoms_spec (ws := w_Ho_init) B.pre w (List.mem_cons_of_mem _ h)
  have hown : s.vm.findClass "PatternText$Holidays" = some m.cls := findClass_of_methodNamed B.named
  have hlocks := B.notSynchronized
  have hin : meth.name = "<init>" := (name_of_methodNamed B.named B.method).1
  subst hsz
  have hD := hD0.self (sz := s.heap.size)
  generalize hAe : va_A [(ho, .inr (0, [.null, .int 0]))] s.heap.size = A at hD ⊢
  have hA : ∀ q : Nat, s.heap.size ≤ q → A q := fun q h => by rw [← hAe]; exact Or.inr h
  have hS : va_S A s.heap s.heap [] := va_S.rf
  have hl := lv_entry ([.ref ho]) (n := 1) (Nat.le_of_ble_eq_true rfl)
  rw [lg_entry_eq]
  generalize (lg_sl ([.ref ho]) ++ List.replicate (1 - (lg_sl ([.ref ho])).length) Slot.unset).toArray = ls at hl ⊢
  have hl : lv_has ls 1 [(0, .ref ho)] := hl
  obtain ⟨Q0, hQ⟩ : ∃ Q0 : State → Prop, Q0 = MQ below (va_Qv (fun (_ : (Nat → Nat) × (Nat → ClassId)) => True) (fun u => wy_N (dC, dI) ga_cl [((u.2 0), .int)] A [(ho, .inr (0, [.ref (u.1 0), .int 0])), ((u.1 0), .inl ((u.2 0), 60, .inl (fun _ => 0)))]) A) ([.ref ho] : List Value).toArray s 1 60 A := ⟨_, rfl⟩
  show W p l e ({ frames := 1, cells := 1, slots := 60, locals := 12 }) s m ([.ref ho] : List Value).toArray below meth c s.heap [] 0 0 (MQ below (va_Qv (fun (_ : (Nat → Nat) × (Nat → ClassId)) => True) (fun u => wy_N (dC, dI) ga_cl [((u.2 0), .int)] A [(ho, .inr (0, [.ref (u.1 0), .int 0])), ((u.1 0), .inl ((u.2 0), 60, .inl (fun _ => 0)))]) A) ([.ref ho] : List Value).toArray s 1 60 A) (F0 m 0 ls [])
  rw [← hQ]
  refine lv_aload_n hx hb d_Ho_init_0 rfl (lv_at hl 0 rfl) ?_
  refine W.objInit hx hb hown (hts _ kw_101) (hts _ kw_56) (hts _ kw_57) rfl (by rw [hml]; exact hl.1) rfl d_Ho_init_1 (Nat.le_of_ble_eq_true rfl) (Nat.le_of_ble_eq_true rfl) ?_
  refine W.eq (g2 := F0 m 4 ls []) rfl ?_
  refine lv_aload_n hx hb d_Ho_init_4 rfl (lv_at hl 0 rfl) ?_
  refine lv_bipush (v := 60) hx hb d_Ho_init_5 (by decide) ?_
  refine va_newa (atype := .int) (ty := .int) (n := 60) (N' := 60) (a0 := (60, .inl (fun _ => 0))) hx hb (hts _ kw_93) rfl hK hP hD hS hA (fun _ => rfl) (by decide) (by decide) (by decide) (Nat.le_of_ble_eq_true rfl) (Nat.le_of_ble_eq_true rfl) d_Ho_init_7 (fun q_7 cA_7 H hK hP hD hS => ?_)
  have hP : va_P (dC, dI) ga_cl [(ho, .inr (0, [.null, .int 0])), (q_7, .inl (cA_7, 60, .inl (fun _ => 0)))] H := hP
  have hD : va_D A [(ho, .inr (0, [.null, .int 0])), (q_7, .inl (cA_7, 60, .inl (fun _ => 0)))] := hD
  have hK : va_K (dC, dI) ga_cl [(cA_7, .int)] s := hK
  refine va_putF (D := (dC, dI)) (ci := 0) (v := .ref q_7) (ty := .array .int) (C := "PatternText$Holidays") (T := F_Ho) (N := 2) hx hb hts iw_Ho t_Ho t_Ho_ok n_Ho hown hK hP hD hS 0 rfl rfl 0 (by decide) (hts _ kw_102) (fun _ h9 => h9) rfl hin rfl (by decide +kernel) rfl rfl (Nat.le_of_ble_eq_true rfl) d_Ho_init_9 (fun H locs hP hD hS => ?_)
  have hP : va_P (dC, dI) ga_cl [(ho, .inr (0, [.ref q_7, .int 0])), (q_7, .inl (cA_7, 60, .inl (fun _ => 0)))] H := hP
  have hD : va_D A [(ho, .inr (0, [.ref q_7, .int 0])), (q_7, .inl (cA_7, 60, .inl (fun _ => 0)))] := hD
  refine lv_aload_n hx hb d_Ho_init_12 rfl (lv_at hl 0 rfl) ?_
  refine lv_iconst (v := 0) hx hb d_Ho_init_13 (by decide) ?_
  refine va_put (D := (dC, dI)) (ci := 0) (v := .int 0) (ty := .int) (C := "PatternText$Holidays") (T := F_Ho) (N := 2) hx hb hts iw_Ho t_Ho t_Ho_ok n_Ho hown hK hP hD hS 0 rfl rfl 1 (by decide) (hts _ kw_103) (fun _ h9 => h9) rfl (by decide +kernel) rfl rfl (Nat.le_of_ble_eq_true rfl) d_Ho_init_14 (fun H locs hP hD hS => ?_)
  have hP : va_P (dC, dI) ga_cl [(ho, .inr (0, [.ref q_7, .int 0])), (q_7, .inl (cA_7, 60, .inl (fun _ => 0)))] H := hP
  have hD : va_D A [(ho, .inr (0, [.ref q_7, .int 0])), (q_7, .inl (cA_7, 60, .inl (fun _ => 0)))] := hD
  rw [hQ]
  refine W.widen (k := 1) (n := 60) (by show 1 ≤ 1; omega) (by show 60 ≤ 60; omega) ?_
  exact W.vret hx hb hr (fun t ht hW => ⟨⟨(fun k => match k with | _ => q_7, fun k => match k with | _ => cA_7), rfl, trivial, by rw [ht]; exact hP, va_K.moved hW.alike hK, hD⟩, hS.F ht⟩) hS.2.2 d_Ho_init_17
