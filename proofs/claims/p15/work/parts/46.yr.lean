set_option maxHeartbeats 4000000 in
set_option maxRecDepth 100000 in
theorem c_Pt_year (l : Launch) (dC : Nat → ClassId) (dI : Nat → Nat → Nat) (pa : Nat) (ps : Nat) (pk : Nat) (sd : Nat) (mo : Int32) (jo : Nat) (vo : Nat) (re : Bool) (dy : Nat) (hdy : dy ≤ 1000000) (hsd1 : 1 ≤ sd) (hsd : sd ≤ 2970) : Met l y_Pt_issuesInYearFrom w_Pt_issuesInYearFrom ({ frames := 1, cells := 0, slots := 0, locals := 22 }) (va_Pc [.ref pa, .int (nI dy)] (wy_R (dC, dI) ga_cl [(pa, .inr (2, [.int (nI pk), .ref ps, .int (nI sd), .int mo, .int (nI jo), .int (nI vo), .int (bo_I re)]))] [])) (vp_Si (fun r => r = nI (mo_yr sd mo dy 361 dy 0))) 0 0 (fun _ => False) := by
  refine Met.ofW (cc := b_Pt_issuesInYearFrom) (maxL := 6) (ret := (some .int)) (by decide) rfl ?_
  intro p e s m args below meth c s₁ B hml hv
  obtain ⟨rfl, hP, hK, hN⟩ := hv
  have hx := B.exec
  have hb := B.bytes
  have hr := B.returns
  have hts : ∀ w ∈ ga_tbl, w.before _ s = true := fun w h => atoms_spec (ws := w_Pt_issuesInYearFrom) B.pre w (List.mem_cons_of_mem _ h)
  have hown : s.vm.findClass "PatternText$Pattern" = some m.cls := findClass_of_methodNamed B.named
  have hlocks := B.notSynchronized
  have hl := lv_entry ([.ref pa, .int (nI dy)]) (n := 6) (Nat.le_of_ble_eq_true rfl)
  rw [lg_entry_eq]
  generalize (lg_sl ([.ref pa, .int (nI dy)]) ++ List.replicate (6 - (lg_sl ([.ref pa, .int (nI dy)])).length) Slot.unset).toArray = ls at hl ⊢
  have hl : lv_has ls 6 [(0, .ref pa), (1, .int (nI dy))] := hl
  obtain ⟨Q0, hQ⟩ : ∃ Q0 : State → Prop, Q0 = MQ below (vp_Si (fun r => r = nI (mo_yr sd mo dy 361 dy 0))) ([.ref pa, .int (nI dy)] : List Value).toArray s 0 0 (fun _ => False) := ⟨_, rfl⟩
  show W p l e ({ frames := 1, cells := 0, slots := 0, locals := 22 }) s m ([.ref pa, .int (nI dy)] : List Value).toArray below meth c s.heap [] 0 0 (MQ below (vp_Si (fun r => r = nI (mo_yr sd mo dy 361 dy 0))) ([.ref pa, .int (nI dy)] : List Value).toArray s 0 0 (fun _ => False)) (F0 m 0 ls [])
  rw [← hQ]
  refine lv_iload_n hx hb d_Pt_issuesInYearFrom_0 rfl (lv_at hl 1 rfl) ?_
  refine lv_sipush (v := 360) hx hb d_Pt_issuesInYearFrom_1 (by decide) ?_
  refine wy_iadd hx hb dy 360 d_Pt_issuesInYearFrom_4 ?_
  refine lv_iconst (v := 1) hx hb d_Pt_issuesInYearFrom_5 (by decide) ?_
  refine wy_isub hx hb (dy + 360) 1 (by omega) d_Pt_issuesInYearFrom_6 ?_
  refine lv_ldc (v := 1000000) hx hb hown (hts _ kw_366) d_Pt_issuesInYearFrom_7 ?_
  refine va_mmin hx hb (hml.trans hl.1.symm) hown (hts _ kw_553) (hts _ kw_270) (hts _ kw_43) (hts _ kw_271) (Nat.le_of_ble_eq_true rfl) (Nat.le_of_ble_eq_true rfl) (Nat.le_of_ble_eq_true rfl) (Nat.le_of_ble_eq_true rfl) d_Pt_issuesInYearFrom_9 ?_
  obtain ⟨lt, hlt, hl0⟩ : ∃ lt : Nat, (if (1000000 : Int32) < nI (dy + 360 - 1) then 1000000 else nI (dy + 360 - 1)) = nI lt ∧ ((lt = 1000000 ∧ 1000000 < dy + 360) ∨ (lt = dy + 359 ∧ dy + 359 ≤ 1000000)) := by
    by_cases hm : 1000000 < dy + 360 - 1
    · exact ⟨1000000, if_pos ((nI_ltI (by decide) (by omega)).mpr hm), Or.inl ⟨rfl, by omega⟩⟩
    · exact ⟨dy + 360 - 1, if_neg (fun z => hm ((nI_ltI (by decide) (by omega)).mp z)), Or.inr ⟨by omega, by omega⟩⟩
  refine wy_cvi (y := nI lt) (hlt) ?_
  refine lv_istore_n (lv' := [(2, .int (nI lt)), (0, .ref pa), (1, .int (nI dy))]) hx hb d_Pt_issuesInYearFrom_12 rfl hl (by decide) rfl (fun ls hl => ?_)
  refine lv_iconst (v := 0) hx hb d_Pt_issuesInYearFrom_13 (by decide) ?_
  refine lv_istore_n (lv' := [(3, .int 0), (2, .int (nI lt)), (0, .ref pa), (1, .int (nI dy))]) hx hb d_Pt_issuesInYearFrom_14 rfl hl (by decide) rfl (fun ls hl => ?_)
  refine lv_iload_n hx hb d_Pt_issuesInYearFrom_15 rfl (lv_at hl 3 rfl) ?_
  refine lv_istore (lv' := [(4, .int (nI dy)), (3, .int 0), (2, .int (nI lt)), (0, .ref pa), (1, .int (nI dy))]) hx hb d_Pt_issuesInYearFrom_16 hl (by decide) rfl (fun ls hl => ?_)
  refine lv_iconst (v := 0) hx hb d_Pt_issuesInYearFrom_18 (by decide) ?_
  refine lv_istore (lv' := [(5, .int 0), (4, .int (nI dy)), (3, .int 0), (2, .int (nI lt)), (0, .ref pa), (1, .int (nI dy))]) hx hb d_Pt_issuesInYearFrom_19 hl (by decide) rfl (fun ls hl => ?_)
  have loop_21 : ∀ (fu : Nat) (k : Nat) (x : Nat) (c0 : Nat), (dy + k ≤ x) → (x ≤ 1003000) → (k ≤ 360) → (mo_yr sd mo dy (361 - k) x c0 = mo_yr sd mo dy 361 dy 0) → 360 - k < fu → ∀ (ls : Array Slot), lv_has ls 6 [(0, .ref pa), (1, .int (nI dy)), (2, .int (nI lt)), (3, .int (nI c0)), (4, .int (nI x)), (5, .int (nI k))] → W p l e ({ frames := 1, cells := 0, slots := 0, locals := 22 }) s m ([.ref pa, .int (nI dy)] : List Value).toArray below meth c s.heap [] 0 0 Q0 (F0 m 21 ls []) := by
    intro fu
    induction fu with
    | zero => intro k x c0 h1 h2 h3 hR hmu; exact absurd hmu (Nat.not_lt_zero _)
    | succ fu ih_21 =>
      intro k x c0 h1 h2 h3 hR hmu ls hl
      refine lv_iload hx hb d_Pt_issuesInYearFrom_21 (lv_at hl 5 rfl) ?_
      refine lv_sipush (v := 360) hx hb d_Pt_issuesInYearFrom_23 (by decide) ?_
      refine wy_icmp_ge (tgt := 62) hx hb k 360 (by omega) (by omega) d_Pt_issuesInYearFrom_26 (by decide) (fun c_26 => ?_) (fun c_26 => ?_)
      · refine lv_iload_n hx hb d_Pt_issuesInYearFrom_62 rfl (lv_at hl 3 rfl) ?_
        rw [hQ]
        have z9 : mo_yr sd mo dy 361 dy 0 = c0 := by rw [← hR]; exact mo_yr_0 (by omega)
        have q9 : (nI c0 : Int32) = nI (mo_yr sd mo dy 361 dy 0) := by rw [z9]
        exact W.iret (v := nI c0) hx hb hr (fun t ht _ => ⟨_, rfl, q9, ht⟩) (fun _ h9 => by cases h9) d_Pt_issuesInYearFrom_63
      · refine lv_iload hx hb d_Pt_issuesInYearFrom_29 (lv_at hl 4 rfl) ?_
        refine lv_iload_n hx hb d_Pt_issuesInYearFrom_31 rfl (lv_at hl 2 rfl) ?_
        refine wy_icmp_gt (tgt := 62) hx hb x lt (by omega) (by omega) d_Pt_issuesInYearFrom_32 (by decide) (fun c_32 => ?_) (fun c_32 => ?_)
        · refine lv_iload_n hx hb d_Pt_issuesInYearFrom_62 rfl (lv_at hl 3 rfl) ?_
          rw [hQ]
          have z9 : mo_yr sd mo dy 361 dy 0 = c0 := by rw [← hR]; exact mo_yr_0 (by omega)
          have q9 : (nI c0 : Int32) = nI (mo_yr sd mo dy 361 dy 0) := by rw [z9]
          exact W.iret (v := nI c0) hx hb hr (fun t ht _ => ⟨_, rfl, q9, ht⟩) (fun _ h9 => by cases h9) d_Pt_issuesInYearFrom_63
        · refine lv_aload_n hx hb d_Pt_issuesInYearFrom_35 rfl (lv_at hl 0 rfl) ?_
          refine lv_iload hx hb d_Pt_issuesInYearFrom_36 (lv_at hl 4 rfl) ?_
          refine vp_callSi (va_runV (As := [.int (nI x)]) (rest := []) ⟨hx, hb, hml, hown, hts⟩ (c_Pt_hasIssueOn l dC dI pa ps pk sd mo jo vo re x (by omega)) (cwV 1 hts (ga_V kw_367 kw_368 kw_369 kw_45 (ga_in kw_370)) rfl rfl rfl (by decide +kernel) ⟨Nat.le_of_ble_eq_true rfl, Nat.le_of_ble_eq_true rfl⟩) (wy_preV 0 (hP.sub (ws' := [(pa, .inr (2, [.int (nI pk), .ref ps, .int (nI sd), .int mo, .int (nI jo), .int (nI vo), .int (bo_I re)]))]) [0] rfl) (hK.sub (tys' := []) [] rfl) hN (ci := 2) rfl rfl rfl) rfl rfl hl.1 rfl (lv_room (Nat.le_of_ble_eq_true rfl)) d_Pt_issuesInYearFrom_38 ⟨Nat.le_of_ble_eq_true rfl, Nat.le_of_ble_eq_true rfl⟩).run (fun r_38 h_38 => ?_)
          subst h_38
          refine wy_ifeqB (tgt := 47) hx hb d_Pt_issuesInYearFrom_41 (by decide) (fun c_41 => ?_) (fun c_41 => ?_)
          · refine lv_iload hx hb d_Pt_issuesInYearFrom_47 (lv_at hl 4 rfl) ?_
            refine lv_aload_n hx hb d_Pt_issuesInYearFrom_49 rfl (lv_at hl 0 rfl) ?_
            refine va_get (D := (dC, dI)) (ci := 2) (v := .int (nI sd)) (C := "PatternText$Pattern") (T := F_Pt) (N := 7) hx hb hts iw_Pt hown hK hP 0 rfl rfl 2 (by decide) (hts _ kw_316) (fun _ h9 => h9) rfl d_Pt_issuesInYearFrom_50 ?_
            refine wy_iadd hx hb x sd d_Pt_issuesInYearFrom_53 ?_
            refine lv_istore (lv' := [(4, .int (nI (x + sd))), (0, .ref pa), (1, .int (nI dy)), (2, .int (nI lt)), (3, .int (nI c0)), (5, .int (nI k))]) hx hb d_Pt_issuesInYearFrom_54 hl (by decide) rfl (fun ls hl => ?_)
            refine wy_iinc (x := k) (lv' := [(5, .int (nI (k + 1))), (4, .int (nI (x + sd))), (0, .ref pa), (1, .int (nI dy)), (2, .int (nI lt)), (3, .int (nI c0))]) hx hb d_Pt_issuesInYearFrom_56 hl (k := 5) rfl (by decide) rfl (fun ls hl => ?_)
            refine lv_goto (tgt := 21) hx hb d_Pt_issuesInYearFrom_59 (by decide) ?_
            exact ih_21 (k + 1) (x + sd) c0 (by omega) (by omega) (by omega) (by rw [← hR, mo_yr_go (k := k) (by omega), if_pos ⟨by omega, by omega⟩, c_41]; rfl) (by omega) ls (lv_sub hl [2, 3, 4, 5, 1, 0] rfl)
          · refine wy_iinc (x := c0) (lv' := [(3, .int (nI (c0 + 1))), (0, .ref pa), (1, .int (nI dy)), (2, .int (nI lt)), (4, .int (nI x)), (5, .int (nI k))]) hx hb d_Pt_issuesInYearFrom_44 hl (k := 3) rfl (by decide) rfl (fun ls hl => ?_)
            refine lv_iload hx hb d_Pt_issuesInYearFrom_47 (lv_at hl 4 rfl) ?_
            refine lv_aload_n hx hb d_Pt_issuesInYearFrom_49 rfl (lv_at hl 1 rfl) ?_
            refine va_get (D := (dC, dI)) (ci := 2) (v := .int (nI sd)) (C := "PatternText$Pattern") (T := F_Pt) (N := 7) hx hb hts iw_Pt hown hK hP 0 rfl rfl 2 (by decide) (hts _ kw_316) (fun _ h9 => h9) rfl d_Pt_issuesInYearFrom_50 ?_
            refine wy_iadd hx hb x sd d_Pt_issuesInYearFrom_53 ?_
            refine lv_istore (lv' := [(4, .int (nI (x + sd))), (3, .int (nI (c0 + 1))), (0, .ref pa), (1, .int (nI dy)), (2, .int (nI lt)), (5, .int (nI k))]) hx hb d_Pt_issuesInYearFrom_54 hl (by decide) rfl (fun ls hl => ?_)
            refine wy_iinc (x := k) (lv' := [(5, .int (nI (k + 1))), (4, .int (nI (x + sd))), (3, .int (nI (c0 + 1))), (0, .ref pa), (1, .int (nI dy)), (2, .int (nI lt))]) hx hb d_Pt_issuesInYearFrom_56 hl (k := 5) rfl (by decide) rfl (fun ls hl => ?_)
            refine lv_goto (tgt := 21) hx hb d_Pt_issuesInYearFrom_59 (by decide) ?_
            exact ih_21 (k + 1) (x + sd) (c0 + 1) (by omega) (by omega) (by omega) (by rw [← hR, mo_yr_go (k := k) (by omega), if_pos ⟨by omega, by omega⟩, c_41]; rfl) (by omega) ls (lv_sub hl [3, 4, 5, 2, 1, 0] rfl)
  exact loop_21 _ 0 dy 0 (by omega) (by omega) (by omega) (rfl) (Nat.lt_succ_self _) ls (lv_sub hl [4, 5, 3, 2, 1, 0] rfl)

set_option maxHeartbeats 4000000 in
set_option maxRecDepth 100000 in
theorem c_Pa_yearly_s (l : Launch) (dC : Nat → ClassId) (dI : Nat → Nat → Nat) (xx : Nat) (rd : Nat) (qa : Nat) (ho : Nat) (li : Nat) (cn : Nat) (pr : Value) (cP : ClassId) (pf : Nat → Option Nat) (pq : Nat) (pa : Nat) (ps : Nat) (pk : Nat) (sd : Nat) (mo : Int32) (jo : Nat) (vo : Nat) (re : Bool) (dy : Nat) (z : Int32) (hc0 : cn ≤ 10) (hk : pq < cn) (hpf : pf pq = some pa) (hdy : dy ≤ 1000000) (hsd1 : 1 ≤ sd) (hsd : sd ≤ 2970) (hz : ¬ z = 0) : Met l y_Pa_yearly w_Pa_yearly ({ frames := 2, cells := 0, slots := 0, locals := 47 }) (va_Pc [.ref xx, .int (nI pq), .int (nI dy), .int z] (wy_R (dC, dI) ga_cl [(xx, .inr (4, [.ref rd, .ref qa, .ref ho, .ref li, .int (nI cn), pr])), (qa, .inl (cP, 10, .inr (.inr (.inr (.inr pf))))), (pa, .inr (2, [.int (nI pk), .ref ps, .int (nI sd), .int mo, .int (nI jo), .int (nI vo), .int (bo_I re)]))] [(cP, .object "PatternText$Pattern")])) (vp_Si (fun r => r = nI (mo_yr sd mo dy 361 dy 0) / z)) 0 0 (fun _ => False) := by
  refine Met.ofW (cc := b_Pa_yearly) (maxL := 5) (ret := (some .int)) (by decide) rfl ?_
  intro p e s m args below meth c s₁ B hml hv
  obtain ⟨rfl, hP, hK, hN⟩ := hv
  have hx := B.exec
  have hb := B.bytes
  have hr := B.returns
  have hts : ∀ w ∈ ga_tbl, w.before _ s = true := fun w h => atoms_spec (ws := w_Pa_yearly) B.pre w (List.mem_cons_of_mem _ h)
  have hown : s.vm.findClass "PatternText" = some m.cls := findClass_of_methodNamed B.named
  have hlocks := B.notSynchronized
  have hl := lv_entry ([.ref xx, .int (nI pq), .int (nI dy), .int z]) (n := 5) (Nat.le_of_ble_eq_true rfl)
  rw [lg_entry_eq]
  generalize (lg_sl ([.ref xx, .int (nI pq), .int (nI dy), .int z]) ++ List.replicate (5 - (lg_sl ([.ref xx, .int (nI pq), .int (nI dy), .int z])).length) Slot.unset).toArray = ls at hl ⊢
  have hl : lv_has ls 5 [(0, .ref xx), (1, .int (nI pq)), (2, .int (nI dy)), (3, .int z)] := hl
  have hday : mo_day (nI dy) = true := by rw [mo_day_nI (by omega), decide_eq_true hdy]
  refine lv_aload_n hx hb d_Pa_yearly_0 rfl (lv_at hl 0 rfl) ?_
  refine lv_iload_n hx hb d_Pa_yearly_1 rfl (lv_at hl 1 rfl) ?_
  refine va_csq (va_runV (As := [.int (nI pq)]) (rest := []) ⟨hx, hb, hml, hown, hts⟩ (c_Pa_patternOf_s l dC dI xx rd qa ho li cn pr cP pf pq pa (by omega) (hk) (hpf)) (cwV 1 hts (ga_V kw_346 kw_348 kw_11 kw_34 (ga_in kw_349)) rfl rfl rfl (by decide +kernel) ⟨Nat.le_of_ble_eq_true rfl, Nat.le_of_ble_eq_true rfl⟩) (wy_preV 0 (hP.sub (ws' := [(xx, .inr (4, [.ref rd, .ref qa, .ref ho, .ref li, .int (nI cn), pr])), (qa, .inl (cP, 10, .inr (.inr (.inr (.inr pf)))))]) [0, 1] rfl) (hK.sub (tys' := [(cP, .object "PatternText$Pattern")]) [0] rfl) hN (ci := 4) rfl rfl rfl) rfl rfl hl.1 rfl (lv_room (Nat.le_of_ble_eq_true rfl)) d_Pa_yearly_2 ⟨Nat.le_of_ble_eq_true rfl, Nat.le_of_ble_eq_true rfl⟩).run (fun r_2 h_2 => ?_)
  subst h_2
  refine lv_astore (lv' := [(4, .ref pa), (0, .ref xx), (1, .int (nI pq)), (2, .int (nI dy)), (3, .int z)]) hx hb d_Pa_yearly_5 hl (by decide) rfl (fun ls hl => ?_)
  refine lv_aload hx hb d_Pa_yearly_7 (lv_at hl 0 rfl) ?_
  refine lv_ifnull hx hb d_Pa_yearly_9 ?_
  refine lv_iload_n hx hb d_Pa_yearly_12 rfl (lv_at hl 3 rfl) ?_
  refine vp_callSi (va_runS (As := [.int (nI dy)]) (rest := []) ⟨hx, hb, hml, hown, hts⟩ (c_Pa_isDay l dC dI (nI dy) ) (cwS 1 hts (ga_S kw_350 kw_351 kw_34 (ga_in kw_352)) rfl rfl rfl (by decide +kernel) ⟨Nat.le_of_ble_eq_true rfl, Nat.le_of_ble_eq_true rfl⟩) (wy_preS (hP.sub (ws' := []) [] rfl) (hK.sub (tys' := []) [] rfl) hN) rfl rfl hl.1 rfl (lv_room (Nat.le_of_ble_eq_true rfl)) d_Pa_yearly_13 ⟨Nat.le_of_ble_eq_true rfl, Nat.le_of_ble_eq_true rfl⟩).run (fun r_13 h_13 => ?_)
  subst h_13
  refine wy_ifneB (tgt := 21) hx hb d_Pa_yearly_16 (by decide) (fun c_16 => ?_) (fun c_16 => ?_)
  · refine lv_iload_n hx hb d_Pa_yearly_21 rfl (lv_at hl 4 rfl) ?_
    refine lv_if_ne (tgt := 35) hx hb d_Pa_yearly_22 (by decide) (fun c_22 => ?_) (fun c_22 => ?_)
    · refine lv_aload hx hb d_Pa_yearly_35 (lv_at hl 0 rfl) ?_
      refine lv_iload_n hx hb d_Pa_yearly_37 rfl (lv_at hl 3 rfl) ?_
      refine vp_callSi (va_runV (As := [.int (nI dy)]) (rest := []) ⟨hx, hb, hml, hown, hts⟩ (c_Pt_year l dC dI pa ps pk sd mo jo vo re dy (by omega) (by omega) (by omega)) (cwV 1 hts (ga_V kw_549 kw_550 kw_551 kw_45 (ga_in kw_552)) rfl rfl rfl (by decide +kernel) ⟨Nat.le_of_ble_eq_true rfl, Nat.le_of_ble_eq_true rfl⟩) (wy_preV 0 (hP.sub (ws' := [(pa, .inr (2, [.int (nI pk), .ref ps, .int (nI sd), .int mo, .int (nI jo), .int (nI vo), .int (bo_I re)]))]) [2] rfl) (hK.sub (tys' := []) [] rfl) hN (ci := 2) rfl rfl rfl) rfl rfl hl.1 rfl (lv_room (Nat.le_of_ble_eq_true rfl)) d_Pa_yearly_38 ⟨Nat.le_of_ble_eq_true rfl, Nat.le_of_ble_eq_true rfl⟩).run (fun r_38 h_38 => ?_)
      subst h_38
      refine lv_iload_n hx hb d_Pa_yearly_41 rfl (lv_at hl 4 rfl) ?_
      refine lv_idiv hx hb d_Pa_yearly_42 (hz) ?_
      have q9 : ((nI (mo_yr sd mo dy 361 dy 0)) / z : Int32) = nI (mo_yr sd mo dy 361 dy 0) / z := by rfl
      exact W.iret (v := (nI (mo_yr sd mo dy 361 dy 0)) / z) hx hb hr (fun t ht _ => ⟨_, rfl, q9, ht⟩) (fun _ h9 => by cases h9) d_Pa_yearly_43
    · exact absurd c_22 hz
  · rw [hday] at c_16; cases c_16

def w_La_yearly : List Cond := .codeWith y_La_yearly b_La_yearly 6 (some .int) [(0, 12, 15, 13)] :: ga_tbl

/-! decode rows of PatternTextLaw -/
theorem d_La_yearly_0 : decode b_La_yearly 0 = .ok (.aload 4, 2) := by decide +kernel
theorem d_La_yearly_2 : decode b_La_yearly 2 = .ok (.iconst 0, 1) := by decide +kernel
theorem d_La_yearly_3 : decode b_La_yearly 3 = .ok (.aload_n 0, 1) := by decide +kernel
theorem d_La_yearly_4 : decode b_La_yearly 4 = .ok (.iload_n 1, 1) := by decide +kernel
theorem d_La_yearly_5 : decode b_La_yearly 5 = .ok (.iload_n 2, 1) := by decide +kernel
theorem d_La_yearly_6 : decode b_La_yearly 6 = .ok (.iload_n 3, 1) := by decide +kernel
theorem d_La_yearly_7 : decode b_La_yearly 7 = .ok (.invokevirtual 7, 3) := by decide +kernel
theorem d_La_yearly_10 : decode b_La_yearly 10 = .ok (.i2l, 1) := by decide +kernel
theorem d_La_yearly_11 : decode b_La_yearly 11 = .ok (.lastore, 1) := by decide +kernel
theorem d_La_yearly_12 : decode b_La_yearly 12 = .ok (.goto 7, 3) := by decide +kernel
theorem d_La_yearly_15 : decode b_La_yearly 15 = .ok (.astore 5, 2) := by decide +kernel
theorem d_La_yearly_17 : decode b_La_yearly 17 = .ok (.iconst 1, 1) := by decide +kernel
theorem d_La_yearly_18 : decode b_La_yearly 18 = .ok (.ireturn, 1) := by decide +kernel
theorem d_La_yearly_19 : decode b_La_yearly 19 = .ok (.iconst 0, 1) := by decide +kernel
theorem d_La_yearly_20 : decode b_La_yearly 20 = .ok (.ireturn, 1) := by decide +kernel

set_option maxHeartbeats 4000000 in
set_option maxRecDepth 100000 in
theorem c_La_yearly_n (l : Launch) (dC : Nat → ClassId) (dI : Nat → Nat → Nat) (sz : Nat) (xx : Nat) (rd : Nat) (qa : Nat) (ho : Nat) (li : Nat) (cn : Nat) (pr : Value) (cP : ClassId) (pf : Nat → Option Nat) (ou : Nat) (cL : ClassId) (ov : Nat → Int64) (x : Int32) (y : Int32) (z : Int32) (hc0 : cn ≤ 10) (hno : li_has cn x = false) : Met l y_La_yearly w_La_yearly ({ frames := 2, cells := 0, slots := 0, locals := 45 }) (va_Pc [.ref xx, .int x, .int y, .int z, .ref ou] (wy_M (dC, dI) ga_cl [(xx, .inr (4, [.ref rd, .ref qa, .ref ho, .ref li, .int (nI cn), pr])), (qa, .inl (cP, 10, .inr (.inr (.inr (.inr pf))))), (ou, .inl (cL, 1, .inr (.inl ov)))] [(cP, .object "PatternText$Pattern"), (cL, .long)] sz)) (va_Qi (fun (r : Int32) (_ : Unit) => r = 0) (fun _ => wy_N (dC, dI) ga_cl [(cP, .object "PatternText$Pattern"), (cL, .long)] (va_A [(xx, .inr (4, [.ref rd, .ref qa, .ref ho, .ref li, .int (nI cn), pr])), (qa, .inl (cP, 10, .inr (.inr (.inr (.inr pf))))), (ou, .inl (cL, 1, .inr (.inl ov)))] sz) [(xx, .inr (4, [.ref rd, .ref qa, .ref ho, .ref li, .int (nI cn), pr])), (qa, .inl (cP, 10, .inr (.inr (.inr (.inr pf))))), (ou, .inl (cL, 1, .inr (.inl (vp_updL ov (0 : Int32).toNatClampNeg (-1 : Int32).toInt64))))]) (va_A [(xx, .inr (4, [.ref rd, .ref qa, .ref ho, .ref li, .int (nI cn), pr])), (qa, .inl (cP, 10, .inr (.inr (.inr (.inr pf))))), (ou, .inl (cL, 1, .inr (.inl ov)))] sz)) 0 0 (va_A [(xx, .inr (4, [.ref rd, .ref qa, .ref ho, .ref li, .int (nI cn), pr])), (qa, .inl (cP, 10, .inr (.inr (.inr (.inr pf))))), (ou, .inl (cL, 1, .inr (.inl ov)))] sz) := by
  refine va_MetW (cc := b_La_yearly) (maxL := 6) (ret := (some .int)) (hh := [(0, 12, 15, 13)]) (by decide) rfl ?_
  intro p e s m args below meth c s₁ B hml hv
  obtain ⟨rfl, hsz, hP, hK, hN, hD0⟩ := hv
  have hx := B.exec
  have hb := B.bytes
  have hr := B.returns
  have hts : ∀ w ∈ ga_tbl, w.before _ s = true := fun w h => atoms_spec (ws := w_La_yearly) B.pre w (List.mem_cons_of_mem _ h)
  have hown : s.vm.findClass "PatternTextLaw" = some m.cls := findClass_of_methodNamed B.named
  have hlocks := B.notSynchronized
  subst hsz
  have hD := hD0.self (sz := s.heap.size)
  generalize hAe : va_A [(xx, .inr (4, [.ref rd, .ref qa, .ref ho, .ref li, .int (nI cn), pr])), (qa, .inl (cP, 10, .inr (.inr (.inr (.inr pf))))), (ou, .inl (cL, 1, .inr (.inl ov)))] s.heap.size = A at hD ⊢
  have hA : ∀ q : Nat, s.heap.size ≤ q → A q := fun q h => by rw [← hAe]; exact Or.inr h
  have hS : va_S A s.heap s.heap [] := va_S.rf
  have hl := lv_entry ([.ref xx, .int x, .int y, .int z, .ref ou]) (n := 6) (Nat.le_of_ble_eq_true rfl)
  rw [lg_entry_eq]
  generalize (lg_sl ([.ref xx, .int x, .int y, .int z, .ref ou]) ++ List.replicate (6 - (lg_sl ([.ref xx, .int x, .int y, .int z, .ref ou])).length) Slot.unset).toArray = ls at hl ⊢
  have hl : lv_has ls 6 [(0, .ref xx), (1, .int x), (2, .int y), (3, .int z), (4, .ref ou)] := hl
  obtain ⟨Q0, hQ⟩ : ∃ Q0 : State → Prop, Q0 = MQ below (va_Qi (fun (r : Int32) (_ : Unit) => r = 0) (fun _ => wy_N (dC, dI) ga_cl [(cP, .object "PatternText$Pattern"), (cL, .long)] A [(xx, .inr (4, [.ref rd, .ref qa, .ref ho, .ref li, .int (nI cn), pr])), (qa, .inl (cP, 10, .inr (.inr (.inr (.inr pf))))), (ou, .inl (cL, 1, .inr (.inl (vp_updL ov (0 : Int32).toNatClampNeg (-1 : Int32).toInt64))))]) A) ([.ref xx, .int x, .int y, .int z, .ref ou] : List Value).toArray s 0 0 A := ⟨_, rfl⟩
  show W p l e ({ frames := 2, cells := 0, slots := 0, locals := 45 }) s m ([.ref xx, .int x, .int y, .int z, .ref ou] : List Value).toArray below meth c s.heap [] 0 0 (MQ below (va_Qi (fun (r : Int32) (_ : Unit) => r = 0) (fun _ => wy_N (dC, dI) ga_cl [(cP, .object "PatternText$Pattern"), (cL, .long)] A [(xx, .inr (4, [.ref rd, .ref qa, .ref ho, .ref li, .int (nI cn), pr])), (qa, .inl (cP, 10, .inr (.inr (.inr (.inr pf))))), (ou, .inl (cL, 1, .inr (.inl (vp_updL ov (0 : Int32).toNatClampNeg (-1 : Int32).toInt64))))]) A) ([.ref xx, .int x, .int y, .int z, .ref ou] : List Value).toArray s 0 0 A) (F0 m 0 ls [])
  rw [← hQ]
  refine lv_aload hx hb d_La_yearly_0 (lv_at hl 4 rfl) ?_
  refine lv_iconst (v := 0) hx hb d_La_yearly_2 (by decide) ?_
  refine lv_aload_n hx hb d_La_yearly_3 rfl (lv_at hl 0 rfl) ?_
  refine lv_iload_n hx hb d_La_yearly_4 rfl (lv_at hl 1 rfl) ?_
  refine lv_iload_n hx hb d_La_yearly_5 rfl (lv_at hl 2 rfl) ?_
  refine lv_iload_n hx hb d_La_yearly_6 rfl (lv_at hl 3 rfl) ?_
  refine vp_callSi (va_runV (As := [.int x, .int y, .int z]) (rest := [.int 0, .ref ou]) ⟨hx, hb, hml, hown, hts⟩ (c_Pa_yearly_n l dC dI xx rd qa ho li cn pr cP pf x y z (by omega) (hno)) (cwV 3 hts (ga_V kw_480 kw_481 kw_482 kw_34 (ga_in kw_483)) rfl rfl rfl (by decide +kernel) ⟨Nat.le_of_ble_eq_true rfl, Nat.le_of_ble_eq_true rfl⟩) (wy_preV 0 (hP.sub (ws' := [(xx, .inr (4, [.ref rd, .ref qa, .ref ho, .ref li, .int (nI cn), pr])), (qa, .inl (cP, 10, .inr (.inr (.inr (.inr pf)))))]) [0, 1] rfl) (hK.sub (tys' := [(cP, .object "PatternText$Pattern")]) [0] rfl) hN (ci := 4) rfl rfl rfl) rfl rfl hl.1 rfl (lv_room (Nat.le_of_ble_eq_true rfl)) d_La_yearly_7 ⟨Nat.le_of_ble_eq_true rfl, Nat.le_of_ble_eq_true rfl⟩).run (fun r_7 h_7 => ?_)
  subst h_7
  refine lv_i2l (v := (-1).toInt64) hx hb d_La_yearly_10 rfl ?_
  refine va_last hx hb hK hP hD hS 2 1 rfl rfl (show vp_in (0 : Int32) 1 from vp_in_nI (n := 0) (by decide) (by decide)) d_La_yearly_11 (fun H locs hP hD hS => ?_)
  have hP : va_P (dC, dI) ga_cl [(xx, .inr (4, [.ref rd, .ref qa, .ref ho, .ref li, .int (nI cn), pr])), (qa, .inl (cP, 10, .inr (.inr (.inr (.inr pf))))), (ou, .inl (cL, 1, .inr (.inl (vp_updL ov (0 : Int32).toNatClampNeg ((-1).toInt64)))))] H := hP
  have hD : va_D A [(xx, .inr (4, [.ref rd, .ref qa, .ref ho, .ref li, .int (nI cn), pr])), (qa, .inl (cP, 10, .inr (.inr (.inr (.inr pf))))), (ou, .inl (cL, 1, .inr (.inl (vp_updL ov (0 : Int32).toNatClampNeg ((-1).toInt64)))))] := hD
  refine lv_goto (tgt := 19) hx hb d_La_yearly_12 (by decide) ?_
  refine lv_iconst (v := 0) hx hb d_La_yearly_19 (by decide) ?_
  rw [hQ]
  have q9 : (0 : Int32) = 0 := by rfl
  have e9 : ([(xx, .inr (4, [.ref rd, .ref qa, .ref ho, .ref li, .int (nI cn), pr])), (qa, .inl (cP, 10, .inr (.inr (.inr (.inr pf))))), (ou, .inl (cL, 1, .inr (.inl (vp_updL ov (0 : Int32).toNatClampNeg (-1 : Int32).toInt64))))] : va_W) = [(xx, .inr (4, [.ref rd, .ref qa, .ref ho, .ref li, .int (nI cn), pr])), (qa, .inl (cP, 10, .inr (.inr (.inr (.inr pf))))), (ou, .inl (cL, 1, .inr (.inl (vp_updL ov (0 : Int32).toNatClampNeg ((-1).toInt64)))))] := by rfl
  exact W.iret (v := 0) hx hb hr (fun t ht hW => ⟨⟨_, (), rfl, q9, by rw [ht, e9]; exact hP, va_K.moved hW.alike hK, by rw [e9]; exact hD⟩, hS.F ht⟩) hS.2.2 d_La_yearly_20

set_option maxHeartbeats 4000000 in
set_option maxRecDepth 100000 in
theorem c_La_yearly_b (l : Launch) (dC : Nat → ClassId) (dI : Nat → Nat → Nat) (sz : Nat) (xx : Nat) (rd : Nat) (qa : Nat) (ho : Nat) (li : Nat) (cn : Nat) (pr : Value) (cP : ClassId) (pf : Nat → Option Nat) (pq : Nat) (pa : Nat) (ou : Nat) (cL : ClassId) (ov : Nat → Int64) (y : Int32) (z : Int32) (hc0 : cn ≤ 10) (hk : pq < cn) (hpf : pf pq = some pa) (hb0 : mo_day y = false) : Met l y_La_yearly w_La_yearly ({ frames := 2, cells := 0, slots := 0, locals := 45 }) (va_Pc [.ref xx, .int (nI pq), .int y, .int z, .ref ou] (wy_M (dC, dI) ga_cl [(xx, .inr (4, [.ref rd, .ref qa, .ref ho, .ref li, .int (nI cn), pr])), (qa, .inl (cP, 10, .inr (.inr (.inr (.inr pf))))), (ou, .inl (cL, 1, .inr (.inl ov)))] [(cP, .object "PatternText$Pattern"), (cL, .long)] sz)) (va_Qi (fun (r : Int32) (_ : Unit) => r = 0) (fun _ => wy_N (dC, dI) ga_cl [(cP, .object "PatternText$Pattern"), (cL, .long)] (va_A [(xx, .inr (4, [.ref rd, .ref qa, .ref ho, .ref li, .int (nI cn), pr])), (qa, .inl (cP, 10, .inr (.inr (.inr (.inr pf))))), (ou, .inl (cL, 1, .inr (.inl ov)))] sz) [(xx, .inr (4, [.ref rd, .ref qa, .ref ho, .ref li, .int (nI cn), pr])), (qa, .inl (cP, 10, .inr (.inr (.inr (.inr pf))))), (ou, .inl (cL, 1, .inr (.inl (vp_updL ov (0 : Int32).toNatClampNeg (-1 : Int32).toInt64))))]) (va_A [(xx, .inr (4, [.ref rd, .ref qa, .ref ho, .ref li, .int (nI cn), pr])), (qa, .inl (cP, 10, .inr (.inr (.inr (.inr pf))))), (ou, .inl (cL, 1, .inr (.inl ov)))] sz)) 0 0 (va_A [(xx, .inr (4, [.ref rd, .ref qa, .ref ho, .ref li, .int (nI cn), pr])), (qa, .inl (cP, 10, .inr (.inr (.inr (.inr pf))))), (ou, .inl (cL, 1, .inr (.inl ov)))] sz) := by
  refine va_MetW (cc := b_La_yearly) (maxL := 6) (ret := (some .int)) (hh := [(0, 12, 15, 13)]) (by decide) rfl ?_
  intro p e s m args below meth c s₁ B hml hv
  obtain ⟨rfl, hsz, hP, hK, hN, hD0⟩ := hv
  have hx := B.exec
  have hb := B.bytes
  have hr := B.returns
  have hts : ∀ w ∈ ga_tbl, w.before _ s = true := fun w h => atoms_spec (ws := w_La_yearly) B.pre w (List.mem_cons_of_mem _ h)
  have hown : s.vm.findClass "PatternTextLaw" = some m.cls := findClass_of_methodNamed B.named
  have hlocks := B.notSynchronized
  subst hsz
  have hD := hD0.self (sz := s.heap.size)
  generalize hAe : va_A [(xx, .inr (4, [.ref rd, .ref qa, .ref ho, .ref li, .int (nI cn), pr])), (qa, .inl (cP, 10, .inr (.inr (.inr (.inr pf))))), (ou, .inl (cL, 1, .inr (.inl ov)))] s.heap.size = A at hD ⊢
  have hA : ∀ q : Nat, s.heap.size ≤ q → A q := fun q h => by rw [← hAe]; exact Or.inr h
  have hS : va_S A s.heap s.heap [] := va_S.rf
  have hl := lv_entry ([.ref xx, .int (nI pq), .int y, .int z, .ref ou]) (n := 6) (Nat.le_of_ble_eq_true rfl)
  rw [lg_entry_eq]
  generalize (lg_sl ([.ref xx, .int (nI pq), .int y, .int z, .ref ou]) ++ List.replicate (6 - (lg_sl ([.ref xx, .int (nI pq), .int y, .int z, .ref ou])).length) Slot.unset).toArray = ls at hl ⊢
  have hl : lv_has ls 6 [(0, .ref xx), (1, .int (nI pq)), (2, .int y), (3, .int z), (4, .ref ou)] := hl
  obtain ⟨Q0, hQ⟩ : ∃ Q0 : State → Prop, Q0 = MQ below (va_Qi (fun (r : Int32) (_ : Unit) => r = 0) (fun _ => wy_N (dC, dI) ga_cl [(cP, .object "PatternText$Pattern"), (cL, .long)] A [(xx, .inr (4, [.ref rd, .ref qa, .ref ho, .ref li, .int (nI cn), pr])), (qa, .inl (cP, 10, .inr (.inr (.inr (.inr pf))))), (ou, .inl (cL, 1, .inr (.inl (vp_updL ov (0 : Int32).toNatClampNeg (-1 : Int32).toInt64))))]) A) ([.ref xx, .int (nI pq), .int y, .int z, .ref ou] : List Value).toArray s 0 0 A := ⟨_, rfl⟩
  show W p l e ({ frames := 2, cells := 0, slots := 0, locals := 45 }) s m ([.ref xx, .int (nI pq), .int y, .int z, .ref ou] : List Value).toArray below meth c s.heap [] 0 0 (MQ below (va_Qi (fun (r : Int32) (_ : Unit) => r = 0) (fun _ => wy_N (dC, dI) ga_cl [(cP, .object "PatternText$Pattern"), (cL, .long)] A [(xx, .inr (4, [.ref rd, .ref qa, .ref ho, .ref li, .int (nI cn), pr])), (qa, .inl (cP, 10, .inr (.inr (.inr (.inr pf))))), (ou, .inl (cL, 1, .inr (.inl (vp_updL ov (0 : Int32).toNatClampNeg (-1 : Int32).toInt64))))]) A) ([.ref xx, .int (nI pq), .int y, .int z, .ref ou] : List Value).toArray s 0 0 A) (F0 m 0 ls [])
  rw [← hQ]
  refine lv_aload hx hb d_La_yearly_0 (lv_at hl 4 rfl) ?_
  refine lv_iconst (v := 0) hx hb d_La_yearly_2 (by decide) ?_
  refine lv_aload_n hx hb d_La_yearly_3 rfl (lv_at hl 0 rfl) ?_
  refine lv_iload_n hx hb d_La_yearly_4 rfl (lv_at hl 1 rfl) ?_
  refine lv_iload_n hx hb d_La_yearly_5 rfl (lv_at hl 2 rfl) ?_
  refine lv_iload_n hx hb d_La_yearly_6 rfl (lv_at hl 3 rfl) ?_
  refine vp_callSi (va_runV (As := [.int (nI pq), .int y, .int z]) (rest := [.int 0, .ref ou]) ⟨hx, hb, hml, hown, hts⟩ (c_Pa_yearly_b l dC dI xx rd qa ho li cn pr cP pf pq pa y z (by omega) (hk) (hpf) (hb0)) (cwV 3 hts (ga_V kw_480 kw_481 kw_482 kw_34 (ga_in kw_483)) rfl rfl rfl (by decide +kernel) ⟨Nat.le_of_ble_eq_true rfl, Nat.le_of_ble_eq_true rfl⟩) (wy_preV 0 (hP.sub (ws' := [(xx, .inr (4, [.ref rd, .ref qa, .ref ho, .ref li, .int (nI cn), pr])), (qa, .inl (cP, 10, .inr (.inr (.inr (.inr pf)))))]) [0, 1] rfl) (hK.sub (tys' := [(cP, .object "PatternText$Pattern")]) [0] rfl) hN (ci := 4) rfl rfl rfl) rfl rfl hl.1 rfl (lv_room (Nat.le_of_ble_eq_true rfl)) d_La_yearly_7 ⟨Nat.le_of_ble_eq_true rfl, Nat.le_of_ble_eq_true rfl⟩).run (fun r_7 h_7 => ?_)
  subst h_7
  refine lv_i2l (v := (-1).toInt64) hx hb d_La_yearly_10 rfl ?_
  refine va_last hx hb hK hP hD hS 2 1 rfl rfl (show vp_in (0 : Int32) 1 from vp_in_nI (n := 0) (by decide) (by decide)) d_La_yearly_11 (fun H locs hP hD hS => ?_)
  have hP : va_P (dC, dI) ga_cl [(xx, .inr (4, [.ref rd, .ref qa, .ref ho, .ref li, .int (nI cn), pr])), (qa, .inl (cP, 10, .inr (.inr (.inr (.inr pf))))), (ou, .inl (cL, 1, .inr (.inl (vp_updL ov (0 : Int32).toNatClampNeg ((-1).toInt64)))))] H := hP
  have hD : va_D A [(xx, .inr (4, [.ref rd, .ref qa, .ref ho, .ref li, .int (nI cn), pr])), (qa, .inl (cP, 10, .inr (.inr (.inr (.inr pf))))), (ou, .inl (cL, 1, .inr (.inl (vp_updL ov (0 : Int32).toNatClampNeg ((-1).toInt64)))))] := hD
  refine lv_goto (tgt := 19) hx hb d_La_yearly_12 (by decide) ?_
  refine lv_iconst (v := 0) hx hb d_La_yearly_19 (by decide) ?_
  rw [hQ]
  have q9 : (0 : Int32) = 0 := by rfl
  have e9 : ([(xx, .inr (4, [.ref rd, .ref qa, .ref ho, .ref li, .int (nI cn), pr])), (qa, .inl (cP, 10, .inr (.inr (.inr (.inr pf))))), (ou, .inl (cL, 1, .inr (.inl (vp_updL ov (0 : Int32).toNatClampNeg (-1 : Int32).toInt64))))] : va_W) = [(xx, .inr (4, [.ref rd, .ref qa, .ref ho, .ref li, .int (nI cn), pr])), (qa, .inl (cP, 10, .inr (.inr (.inr (.inr pf))))), (ou, .inl (cL, 1, .inr (.inl (vp_updL ov (0 : Int32).toNatClampNeg ((-1).toInt64)))))] := by rfl
  exact W.iret (v := 0) hx hb hr (fun t ht hW => ⟨⟨_, (), rfl, q9, by rw [ht, e9]; exact hP, va_K.moved hW.alike hK, by rw [e9]; exact hD⟩, hS.F ht⟩) hS.2.2 d_La_yearly_20

set_option maxHeartbeats 4000000 in
set_option maxRecDepth 100000 in
theorem c_La_yearly_s (l : Launch) (dC : Nat → ClassId) (dI : Nat → Nat → Nat) (sz : Nat) (xx : Nat) (rd : Nat) (qa : Nat) (ho : Nat) (li : Nat) (cn : Nat) (pr : Value) (cP : ClassId) (pf : Nat → Option Nat) (pq : Nat) (pa : Nat) (ps : Nat) (pk : Nat) (sd : Nat) (mo : Int32) (jo : Nat) (vo : Nat) (re : Bool) (ou : Nat) (cL : ClassId) (ov : Nat → Int64) (dy : Nat) (z : Int32) (hc0 : cn ≤ 10) (hk : pq < cn) (hpf : pf pq = some pa) (hdy : dy ≤ 1000000) (hsd1 : 1 ≤ sd) (hsd : sd ≤ 2970) (hz : ¬ z = 0) : Met l y_La_yearly w_La_yearly ({ frames := 3, cells := 0, slots := 0, locals := 71 }) (va_Pc [.ref xx, .int (nI pq), .int (nI dy), .int z, .ref ou] (wy_M (dC, dI) ga_cl [(xx, .inr (4, [.ref rd, .ref qa, .ref ho, .ref li, .int (nI cn), pr])), (qa, .inl (cP, 10, .inr (.inr (.inr (.inr pf))))), (pa, .inr (2, [.int (nI pk), .ref ps, .int (nI sd), .int mo, .int (nI jo), .int (nI vo), .int (bo_I re)])), (ou, .inl (cL, 1, .inr (.inl ov)))] [(cP, .object "PatternText$Pattern"), (cL, .long)] sz)) (va_Qi (fun (r : Int32) (_ : Unit) => r = 0) (fun _ => wy_N (dC, dI) ga_cl [(cP, .object "PatternText$Pattern"), (cL, .long)] (va_A [(xx, .inr (4, [.ref rd, .ref qa, .ref ho, .ref li, .int (nI cn), pr])), (qa, .inl (cP, 10, .inr (.inr (.inr (.inr pf))))), (pa, .inr (2, [.int (nI pk), .ref ps, .int (nI sd), .int mo, .int (nI jo), .int (nI vo), .int (bo_I re)])), (ou, .inl (cL, 1, .inr (.inl ov)))] sz) [(xx, .inr (4, [.ref rd, .ref qa, .ref ho, .ref li, .int (nI cn), pr])), (qa, .inl (cP, 10, .inr (.inr (.inr (.inr pf))))), (pa, .inr (2, [.int (nI pk), .ref ps, .int (nI sd), .int mo, .int (nI jo), .int (nI vo), .int (bo_I re)])), (ou, .inl (cL, 1, .inr (.inl (vp_updL ov (0 : Int32).toNatClampNeg (nI (mo_yr sd mo dy 361 dy 0) / z).toInt64))))]) (va_A [(xx, .inr (4, [.ref rd, .ref qa, .ref ho, .ref li, .int (nI cn), pr])), (qa, .inl (cP, 10, .inr (.inr (.inr (.inr pf))))), (pa, .inr (2, [.int (nI pk), .ref ps, .int (nI sd), .int mo, .int (nI jo), .int (nI vo), .int (bo_I re)])), (ou, .inl (cL, 1, .inr (.inl ov)))] sz)) 0 0 (va_A [(xx, .inr (4, [.ref rd, .ref qa, .ref ho, .ref li, .int (nI cn), pr])), (qa, .inl (cP, 10, .inr (.inr (.inr (.inr pf))))), (pa, .inr (2, [.int (nI pk), .ref ps, .int (nI sd), .int mo, .int (nI jo), .int (nI vo), .int (bo_I re)])), (ou, .inl (cL, 1, .inr (.inl ov)))] sz) := by
  refine va_MetW (cc := b_La_yearly) (maxL := 6) (ret := (some .int)) (hh := [(0, 12, 15, 13)]) (by decide) rfl ?_
  intro p e s m args below meth c s₁ B hml hv
  obtain ⟨rfl, hsz, hP, hK, hN, hD0⟩ := hv
  have hx := B.exec
  have hb := B.bytes
  have hr := B.returns
  have hts : ∀ w ∈ ga_tbl, w.before _ s = true := fun w h => atoms_spec (ws := w_La_yearly) B.pre w (List.mem_cons_of_mem _ h)
  have hown : s.vm.findClass "PatternTextLaw" = some m.cls := findClass_of_methodNamed B.named
  have hlocks := B.notSynchronized
  subst hsz
  have hD := hD0.self (sz := s.heap.size)
  generalize hAe : va_A [(xx, .inr (4, [.ref rd, .ref qa, .ref ho, .ref li, .int (nI cn), pr])), (qa, .inl (cP, 10, .inr (.inr (.inr (.inr pf))))), (pa, .inr (2, [.int (nI pk), .ref ps, .int (nI sd), .int mo, .int (nI jo), .int (nI vo), .int (bo_I re)])), (ou, .inl (cL, 1, .inr (.inl ov)))] s.heap.size = A at hD ⊢
  have hA : ∀ q : Nat, s.heap.size ≤ q → A q := fun q h => by rw [← hAe]; exact Or.inr h
  have hS : va_S A s.heap s.heap [] := va_S.rf
  have hl := lv_entry ([.ref xx, .int (nI pq), .int (nI dy), .int z, .ref ou]) (n := 6) (Nat.le_of_ble_eq_true rfl)
  rw [lg_entry_eq]
  generalize (lg_sl ([.ref xx, .int (nI pq), .int (nI dy), .int z, .ref ou]) ++ List.replicate (6 - (lg_sl ([.ref xx, .int (nI pq), .int (nI dy), .int z, .ref ou])).length) Slot.unset).toArray = ls at hl ⊢
  have hl : lv_has ls 6 [(0, .ref xx), (1, .int (nI pq)), (2, .int (nI dy)), (3, .int z), (4, .ref ou)] := hl
  obtain ⟨Q0, hQ⟩ : ∃ Q0 : State → Prop, Q0 = MQ below (va_Qi (fun (r : Int32) (_ : Unit) => r = 0) (fun _ => wy_N (dC, dI) ga_cl [(cP, .object "PatternText$Pattern"), (cL, .long)] A [(xx, .inr (4, [.ref rd, .ref qa, .ref ho, .ref li, .int (nI cn), pr])), (qa, .inl (cP, 10, .inr (.inr (.inr (.inr pf))))), (pa, .inr (2, [.int (nI pk), .ref ps, .int (nI sd), .int mo, .int (nI jo), .int (nI vo), .int (bo_I re)])), (ou, .inl (cL, 1, .inr (.inl (vp_updL ov (0 : Int32).toNatClampNeg (nI (mo_yr sd mo dy 361 dy 0) / z).toInt64))))]) A) ([.ref xx, .int (nI pq), .int (nI dy), .int z, .ref ou] : List Value).toArray s 0 0 A := ⟨_, rfl⟩
  show W p l e ({ frames := 3, cells := 0, slots := 0, locals := 71 }) s m ([.ref xx, .int (nI pq), .int (nI dy), .int z, .ref ou] : List Value).toArray below meth c s.heap [] 0 0 (MQ below (va_Qi (fun (r : Int32) (_ : Unit) => r = 0) (fun _ => wy_N (dC, dI) ga_cl [(cP, .object "PatternText$Pattern"), (cL, .long)] A [(xx, .inr (4, [.ref rd, .ref qa, .ref ho, .ref li, .int (nI cn), pr])), (qa, .inl (cP, 10, .inr (.inr (.inr (.inr pf))))), (pa, .inr (2, [.int (nI pk), .ref ps, .int (nI sd), .int mo, .int (nI jo), .int (nI vo), .int (bo_I re)])), (ou, .inl (cL, 1, .inr (.inl (vp_updL ov (0 : Int32).toNatClampNeg (nI (mo_yr sd mo dy 361 dy 0) / z).toInt64))))]) A) ([.ref xx, .int (nI pq), .int (nI dy), .int z, .ref ou] : List Value).toArray s 0 0 A) (F0 m 0 ls [])
  rw [← hQ]
  refine lv_aload hx hb d_La_yearly_0 (lv_at hl 4 rfl) ?_
  refine lv_iconst (v := 0) hx hb d_La_yearly_2 (by decide) ?_
  refine lv_aload_n hx hb d_La_yearly_3 rfl (lv_at hl 0 rfl) ?_
  refine lv_iload_n hx hb d_La_yearly_4 rfl (lv_at hl 1 rfl) ?_
  refine lv_iload_n hx hb d_La_yearly_5 rfl (lv_at hl 2 rfl) ?_
  refine lv_iload_n hx hb d_La_yearly_6 rfl (lv_at hl 3 rfl) ?_
  refine vp_callSi (va_runV (As := [.int (nI pq), .int (nI dy), .int z]) (rest := [.int 0, .ref ou]) ⟨hx, hb, hml, hown, hts⟩ (c_Pa_yearly_s l dC dI xx rd qa ho li cn pr cP pf pq pa ps pk sd mo jo vo re dy z (by omega) (hk) (hpf) (by omega) (by omega) (by omega) (hz)) (cwV 3 hts (ga_V kw_480 kw_481 kw_482 kw_34 (ga_in kw_483)) rfl rfl rfl (by decide +kernel) ⟨Nat.le_of_ble_eq_true rfl, Nat.le_of_ble_eq_true rfl⟩) (wy_preV 0 (hP.sub (ws' := [(xx, .inr (4, [.ref rd, .ref qa, .ref ho, .ref li, .int (nI cn), pr])), (qa, .inl (cP, 10, .inr (.inr (.inr (.inr pf))))), (pa, .inr (2, [.int (nI pk), .ref ps, .int (nI sd), .int mo, .int (nI jo), .int (nI vo), .int (bo_I re)]))]) [0, 1, 2] rfl) (hK.sub (tys' := [(cP, .object "PatternText$Pattern")]) [0] rfl) hN (ci := 4) rfl rfl rfl) rfl rfl hl.1 rfl (lv_room (Nat.le_of_ble_eq_true rfl)) d_La_yearly_7 ⟨Nat.le_of_ble_eq_true rfl, Nat.le_of_ble_eq_true rfl⟩).run (fun r_7 h_7 => ?_)
  subst h_7
  refine lv_i2l (v := (nI (mo_yr sd mo dy 361 dy 0) / z).toInt64) hx hb d_La_yearly_10 rfl ?_
  refine va_last hx hb hK hP hD hS 3 1 rfl rfl (show vp_in (0 : Int32) 1 from vp_in_nI (n := 0) (by decide) (by decide)) d_La_yearly_11 (fun H locs hP hD hS => ?_)
  have hP : va_P (dC, dI) ga_cl [(xx, .inr (4, [.ref rd, .ref qa, .ref ho, .ref li, .int (nI cn), pr])), (qa, .inl (cP, 10, .inr (.inr (.inr (.inr pf))))), (pa, .inr (2, [.int (nI pk), .ref ps, .int (nI sd), .int mo, .int (nI jo), .int (nI vo), .int (bo_I re)])), (ou, .inl (cL, 1, .inr (.inl (vp_updL ov (0 : Int32).toNatClampNeg ((nI (mo_yr sd mo dy 361 dy 0) / z).toInt64)))))] H := hP
  have hD : va_D A [(xx, .inr (4, [.ref rd, .ref qa, .ref ho, .ref li, .int (nI cn), pr])), (qa, .inl (cP, 10, .inr (.inr (.inr (.inr pf))))), (pa, .inr (2, [.int (nI pk), .ref ps, .int (nI sd), .int mo, .int (nI jo), .int (nI vo), .int (bo_I re)])), (ou, .inl (cL, 1, .inr (.inl (vp_updL ov (0 : Int32).toNatClampNeg ((nI (mo_yr sd mo dy 361 dy 0) / z).toInt64)))))] := hD
  refine lv_goto (tgt := 19) hx hb d_La_yearly_12 (by decide) ?_
  refine lv_iconst (v := 0) hx hb d_La_yearly_19 (by decide) ?_
  rw [hQ]
  have q9 : (0 : Int32) = 0 := by rfl
  have e9 : ([(xx, .inr (4, [.ref rd, .ref qa, .ref ho, .ref li, .int (nI cn), pr])), (qa, .inl (cP, 10, .inr (.inr (.inr (.inr pf))))), (pa, .inr (2, [.int (nI pk), .ref ps, .int (nI sd), .int mo, .int (nI jo), .int (nI vo), .int (bo_I re)])), (ou, .inl (cL, 1, .inr (.inl (vp_updL ov (0 : Int32).toNatClampNeg (nI (mo_yr sd mo dy 361 dy 0) / z).toInt64))))] : va_W) = [(xx, .inr (4, [.ref rd, .ref qa, .ref ho, .ref li, .int (nI cn), pr])), (qa, .inl (cP, 10, .inr (.inr (.inr (.inr pf))))), (pa, .inr (2, [.int (nI pk), .ref ps, .int (nI sd), .int mo, .int (nI jo), .int (nI vo), .int (bo_I re)])), (ou, .inl (cL, 1, .inr (.inl (vp_updL ov (0 : Int32).toNatClampNeg ((nI (mo_yr sd mo dy 361 dy 0) / z).toInt64)))))] := by rfl
  exact W.iret (v := 0) hx hb hr (fun t ht hW => ⟨⟨_, (), rfl, q9, by rw [ht, e9]; exact hP, va_K.moved hW.alike hK, by rw [e9]; exact hD⟩, hS.F ht⟩) hS.2.2 d_La_yearly_20
