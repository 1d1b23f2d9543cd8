set_option maxHeartbeats 4000000 in
set_option maxRecDepth 100000 in
/-- isDigit -/
theorem c_Rd_isDigit (l : Launch) (dC : Nat → ClassId) (dI : Nat → Nat → Nat) (x : Int32) : Met l y_Rd_isDigit w_Rd_isDigit ({ frames := 0, cells := 0, slots := 0, locals := 0 }) (va_Pc [.int x] (wy_R (dC, dI) ga_cl [] [])) (vp_Si (fun r => r = bo_I (rd_dig x))) 0 0 (fun _ => False) := by
  refine Met.ofW (cc := b_Rd_isDigit) (maxL := 1) (ret := (some .boolean)) (by decide) rfl ?_
  intro p e s m args below meth c s₁ B hml hv
  obtain ⟨rfl, hP, hK, hN⟩ := hv
  have hx := B.exec
  have hb := B.bytes
  have hr := B.returns
  have hts : ∀ w ∈ ga_tbl, w.before _ s = true := fun w h => atoms_spec (ws := w_Rd_isDigit) B.pre w (List.mem_cons_of_mem _ h)
  have hown : s.vm.findClass "PatternText$PatternReader" = some m.cls := findClass_of_methodNamed B.named
  have hlocks := B.notSynchronized
  have hl := lv_entry ([.int x]) (n := 1) (Nat.le_of_ble_eq_true rfl)
  rw [lg_entry_eq]
  generalize (lg_sl ([.int x]) ++ List.replicate (1 - (lg_sl ([.int x])).length) Slot.unset).toArray = ls at hl ⊢
  have hl : lv_has ls 1 [(0, .int x)] := hl
  refine lv_iload_n hx hb d_Rd_isDigit_0 rfl (lv_at hl 0 rfl) ?_
  refine lv_bipush (v := 48) hx hb d_Rd_isDigit_1 (by decide) ?_
  refine lv_icmp_lt (tgt := 16) hx hb d_Rd_isDigit_3 (by decide) (fun c_3 => ?_) (fun c_3 => ?_)
  · refine lv_iconst (v := 0) hx hb d_Rd_isDigit_16 (by decide) ?_
    have z9 : rd_dig x = false := by simp only [rd_dig, Bool.or_eq_false_iff, Bool.and_eq_false_iff, decide_eq_false_iff_not, Int32.le_iff_toInt_le, Int32.lt_iff_toInt_lt, Int32.reduceToInt] at *; omega
    have q9 : (0 : Int32) = bo_I (rd_dig x) := by rw [z9]; rfl
    exact W.zret (v := 0) hx hb hr rfl (fun t ht _ => ⟨_, rfl, q9, ht⟩) (fun _ h9 => by cases h9) d_Rd_isDigit_17
  · refine lv_iload_n hx hb d_Rd_isDigit_6 rfl (lv_at hl 0 rfl) ?_
    refine lv_bipush (v := 57) hx hb d_Rd_isDigit_7 (by decide) ?_
    refine lv_icmp_gt (tgt := 16) hx hb d_Rd_isDigit_9 (by decide) (fun c_9 => ?_) (fun c_9 => ?_)
    · refine lv_iconst (v := 0) hx hb d_Rd_isDigit_16 (by decide) ?_
      have z9 : rd_dig x = false := by simp only [rd_dig, Bool.or_eq_false_iff, Bool.and_eq_false_iff, decide_eq_false_iff_not, Int32.le_iff_toInt_le, Int32.lt_iff_toInt_lt, Int32.reduceToInt] at *; omega
      have q9 : (0 : Int32) = bo_I (rd_dig x) := by rw [z9]; rfl
      exact W.zret (v := 0) hx hb hr rfl (fun t ht _ => ⟨_, rfl, q9, ht⟩) (fun _ h9 => by cases h9) d_Rd_isDigit_17
    · refine lv_iconst (v := 1) hx hb d_Rd_isDigit_12 (by decide) ?_
      refine lv_goto (tgt := 17) hx hb d_Rd_isDigit_13 (by decide) ?_
      have z9 : rd_dig x = true := by simp only [rd_dig, Bool.or_eq_true, Bool.and_eq_true, decide_eq_true_eq, Int32.le_iff_toInt_le, Int32.lt_iff_toInt_lt, Int32.reduceToInt] at *; omega
      have q9 : (1 : Int32) = bo_I (rd_dig x) := by rw [z9]; rfl
      exact W.zret (v := 1) hx hb hr rfl (fun t ht _ => ⟨_, rfl, q9, ht⟩) (fun _ h9 => by cases h9) d_Rd_isDigit_17

set_option maxHeartbeats 4000000 in
set_option maxRecDepth 100000 in
/-- isLetter -/
theorem c_Rd_isLetter (l : Launch) (dC : Nat → ClassId) (dI : Nat → Nat → Nat) (x : Int32) : Met l y_Rd_isLetter w_Rd_isLetter ({ frames := 0, cells := 0, slots := 0, locals := 0 }) (va_Pc [.int x] (wy_R (dC, dI) ga_cl [] [])) (vp_Si (fun r => r = bo_I (rd_let x))) 0 0 (fun _ => False) := by
  refine Met.ofW (cc := b_Rd_isLetter) (maxL := 1) (ret := (some .boolean)) (by decide) rfl ?_
  intro p e s m args below meth c s₁ B hml hv
  obtain ⟨rfl, hP, hK, hN⟩ := hv
  have hx := B.exec
  have hb := B.bytes
  have hr := B.returns
  have hts : ∀ w ∈ ga_tbl, w.before _ s = true := fun w h => atoms_spec (ws := w_Rd_isLetter) B.pre w (List.mem_cons_of_mem _ h)
  have hown : s.vm.findClass "PatternText$PatternReader" = some m.cls := findClass_of_methodNamed B.named
  have hlocks := B.notSynchronized
  have hl := lv_entry ([.int x]) (n := 1) (Nat.le_of_ble_eq_true rfl)
  rw [lg_entry_eq]
  generalize (lg_sl ([.int x]) ++ List.replicate (1 - (lg_sl ([.int x])).length) Slot.unset).toArray = ls at hl ⊢
  have hl : lv_has ls 1 [(0, .int x)] := hl
  refine lv_iload_n hx hb d_Rd_isLetter_0 rfl (lv_at hl 0 rfl) ?_
  refine lv_bipush (v := 97) hx hb d_Rd_isLetter_1 (by decide) ?_
  refine lv_icmp_lt (tgt := 12) hx hb d_Rd_isLetter_3 (by decide) (fun c_3 => ?_) (fun c_3 => ?_)
  · refine lv_iload_n hx hb d_Rd_isLetter_12 rfl (lv_at hl 0 rfl) ?_
    refine lv_bipush (v := 65) hx hb d_Rd_isLetter_13 (by decide) ?_
    refine lv_icmp_lt (tgt := 28) hx hb d_Rd_isLetter_15 (by decide) (fun c_15 => ?_) (fun c_15 => ?_)
    · refine lv_iconst (v := 0) hx hb d_Rd_isLetter_28 (by decide) ?_
      have z9 : rd_let x = false := by simp only [rd_let, Bool.or_eq_false_iff, Bool.and_eq_false_iff, decide_eq_false_iff_not, Int32.le_iff_toInt_le, Int32.lt_iff_toInt_lt, Int32.reduceToInt] at *; omega
      have q9 : (0 : Int32) = bo_I (rd_let x) := by rw [z9]; rfl
      exact W.zret (v := 0) hx hb hr rfl (fun t ht _ => ⟨_, rfl, q9, ht⟩) (fun _ h9 => by cases h9) d_Rd_isLetter_29
    · refine lv_iload_n hx hb d_Rd_isLetter_18 rfl (lv_at hl 0 rfl) ?_
      refine lv_bipush (v := 90) hx hb d_Rd_isLetter_19 (by decide) ?_
      refine lv_icmp_gt (tgt := 28) hx hb d_Rd_isLetter_21 (by decide) (fun c_21 => ?_) (fun c_21 => ?_)
      · refine lv_iconst (v := 0) hx hb d_Rd_isLetter_28 (by decide) ?_
        have z9 : rd_let x = false := by simp only [rd_let, Bool.or_eq_false_iff, Bool.and_eq_false_iff, decide_eq_false_iff_not, Int32.le_iff_toInt_le, Int32.lt_iff_toInt_lt, Int32.reduceToInt] at *; omega
        have q9 : (0 : Int32) = bo_I (rd_let x) := by rw [z9]; rfl
        exact W.zret (v := 0) hx hb hr rfl (fun t ht _ => ⟨_, rfl, q9, ht⟩) (fun _ h9 => by cases h9) d_Rd_isLetter_29
      · refine lv_iconst (v := 1) hx hb d_Rd_isLetter_24 (by decide) ?_
        refine lv_goto (tgt := 29) hx hb d_Rd_isLetter_25 (by decide) ?_
        have z9 : rd_let x = true := by simp only [rd_let, Bool.or_eq_true, Bool.and_eq_true, decide_eq_true_eq, Int32.le_iff_toInt_le, Int32.lt_iff_toInt_lt, Int32.reduceToInt] at *; omega
        have q9 : (1 : Int32) = bo_I (rd_let x) := by rw [z9]; rfl
        exact W.zret (v := 1) hx hb hr rfl (fun t ht _ => ⟨_, rfl, q9, ht⟩) (fun _ h9 => by cases h9) d_Rd_isLetter_29
  · refine lv_iload_n hx hb d_Rd_isLetter_6 rfl (lv_at hl 0 rfl) ?_
    refine lv_bipush (v := 122) hx hb d_Rd_isLetter_7 (by decide) ?_
    refine lv_icmp_le (tgt := 24) hx hb d_Rd_isLetter_9 (by decide) (fun c_9 => ?_) (fun c_9 => ?_)
    · refine lv_iconst (v := 1) hx hb d_Rd_isLetter_24 (by decide) ?_
      refine lv_goto (tgt := 29) hx hb d_Rd_isLetter_25 (by decide) ?_
      have z9 : rd_let x = true := by simp only [rd_let, Bool.or_eq_true, Bool.and_eq_true, decide_eq_true_eq, Int32.le_iff_toInt_le, Int32.lt_iff_toInt_lt, Int32.reduceToInt] at *; omega
      have q9 : (1 : Int32) = bo_I (rd_let x) := by rw [z9]; rfl
      exact W.zret (v := 1) hx hb hr rfl (fun t ht _ => ⟨_, rfl, q9, ht⟩) (fun _ h9 => by cases h9) d_Rd_isLetter_29
    · refine lv_iload_n hx hb d_Rd_isLetter_12 rfl (lv_at hl 0 rfl) ?_
      refine lv_bipush (v := 65) hx hb d_Rd_isLetter_13 (by decide) ?_
      refine lv_icmp_lt (tgt := 28) hx hb d_Rd_isLetter_15 (by decide) (fun c_15 => ?_) (fun c_15 => ?_)
      · refine lv_iconst (v := 0) hx hb d_Rd_isLetter_28 (by decide) ?_
        have z9 : rd_let x = false := by simp only [rd_let, Bool.or_eq_false_iff, Bool.and_eq_false_iff, decide_eq_false_iff_not, Int32.le_iff_toInt_le, Int32.lt_iff_toInt_lt, Int32.reduceToInt] at *; omega
        have q9 : (0 : Int32) = bo_I (rd_let x) := by rw [z9]; rfl
        exact W.zret (v := 0) hx hb hr rfl (fun t ht _ => ⟨_, rfl, q9, ht⟩) (fun _ h9 => by cases h9) d_Rd_isLetter_29
      · refine lv_iload_n hx hb d_Rd_isLetter_18 rfl (lv_at hl 0 rfl) ?_
        refine lv_bipush (v := 90) hx hb d_Rd_isLetter_19 (by decide) ?_
        refine lv_icmp_gt (tgt := 28) hx hb d_Rd_isLetter_21 (by decide) (fun c_21 => ?_) (fun c_21 => ?_)
        · refine lv_iconst (v := 0) hx hb d_Rd_isLetter_28 (by decide) ?_
          have z9 : rd_let x = false := by simp only [rd_let, Bool.or_eq_false_iff, Bool.and_eq_false_iff, decide_eq_false_iff_not, Int32.le_iff_toInt_le, Int32.lt_iff_toInt_lt, Int32.reduceToInt] at *; omega
          have q9 : (0 : Int32) = bo_I (rd_let x) := by rw [z9]; rfl
          exact W.zret (v := 0) hx hb hr rfl (fun t ht _ => ⟨_, rfl, q9, ht⟩) (fun _ h9 => by cases h9) d_Rd_isLetter_29
        · refine lv_iconst (v := 1) hx hb d_Rd_isLetter_24 (by decide) ?_
          refine lv_goto (tgt := 29) hx hb d_Rd_isLetter_25 (by decide) ?_
          have z9 : rd_let x = true := by simp only [rd_let, Bool.or_eq_true, Bool.and_eq_true, decide_eq_true_eq, Int32.le_iff_toInt_le, Int32.lt_iff_toInt_lt, Int32.reduceToInt] at *; omega
          have q9 : (1 : Int32) = bo_I (rd_let x) := by rw [z9]; rfl
          exact W.zret (v := 1) hx hb hr rfl (fun t ht _ => ⟨_, rfl, q9, ht⟩) (fun _ h9 => by cases h9) d_Rd_isLetter_29

set_option maxHeartbeats 4000000 in
set_option maxRecDepth 100000 in
/-- signAt -/
theorem c_Rd_signAt (l : Launch) (dC : Nat → ClassId) (dI : Nat → Nat → Nat) (rd : Nat) (sa : Nat) (cI : ClassId) (tx : Nat → Int32) (n : Nat) (pv : Int32) (nu : Int32) (st : Int32) (mo : Int32) (jo : Int32) (vo : Int32) (re : Bool) (k : Nat) (hn : n ≤ 120) (hk : k < 2 ^ 31) : Met l y_Rd_signAt w_Rd_signAt ({ frames := 0, cells := 0, slots := 0, locals := 0 }) (va_Pc [.ref rd, .int (nI k)] (wy_R (dC, dI) ga_cl [(rd, .inr (3, [.ref sa, .int (nI n), .int pv, .int nu, .int st, .int mo, .int jo, .int vo, .int (bo_I re)])), (sa, .inl (cI, 120, .inl tx))] [(cI, .int)])) (vp_Si (fun r => r = rd_sg tx n k)) 0 0 (fun _ => False) := by
  refine Met.ofW (cc := b_Rd_signAt) (maxL := 2) (ret := (some .int)) (by decide) rfl ?_
  intro p e s m args below meth c s₁ B hml hv
  obtain ⟨rfl, hP, hK, hN⟩ := hv
  have hx := B.exec
  have hb := B.bytes
  have hr := B.returns
  have hts : ∀ w ∈ ga_tbl, w.before _ s = true := fun w h => atoms_spec (ws := w_Rd_signAt) B.pre w (List.mem_cons_of_mem _ h)
  have hown : s.vm.findClass "PatternText$PatternReader" = some m.cls := findClass_of_methodNamed B.named
  have hlocks := B.notSynchronized
  have hl := lv_entry ([.ref rd, .int (nI k)]) (n := 2) (Nat.le_of_ble_eq_true rfl)
  rw [lg_entry_eq]
  generalize (lg_sl ([.ref rd, .int (nI k)]) ++ List.replicate (2 - (lg_sl ([.ref rd, .int (nI k)])).length) Slot.unset).toArray = ls at hl ⊢
  have hl : lv_has ls 2 [(0, .ref rd), (1, .int (nI k))] := hl
  refine lv_iload_n hx hb d_Rd_signAt_0 rfl (lv_at hl 1 rfl) ?_
  refine wy_ifltN (tgt := 27) hx hb k (by omega) d_Rd_signAt_1 (by decide) ?_
  refine lv_iload_n hx hb d_Rd_signAt_4 rfl (lv_at hl 1 rfl) ?_
  refine lv_aload_n hx hb d_Rd_signAt_5 rfl (lv_at hl 0 rfl) ?_
  refine va_get (D := (dC, dI)) (ci := 3) (v := .int (nI n)) (C := "PatternText$PatternReader") (T := F_Rd) (N := 9) hx hb hts iw_Rd hown hK hP 0 rfl rfl 1 (by decide) (hts _ kw_65) (fun _ h9 => h9) rfl d_Rd_signAt_6 ?_
  refine wy_icmp_ge (tgt := 27) hx hb k n (by omega) (by omega) d_Rd_signAt_9 (by decide) (fun c_9 => ?_) (fun c_9 => ?_)
  · refine lv_iconst (v := -1) hx hb d_Rd_signAt_27 (by decide) ?_
    have q9 : ((-1) : Int32) = rd_sg tx n k := by simp [rd_sg]; omega
    exact W.iret (v := (-1)) hx hb hr (fun t ht _ => ⟨_, rfl, q9, ht⟩) (fun _ h9 => by cases h9) d_Rd_signAt_28
  · refine lv_iload_n hx hb d_Rd_signAt_12 rfl (lv_at hl 1 rfl) ?_
    refine lv_bipush (v := 120) hx hb d_Rd_signAt_13 (by decide) ?_
    refine wy_icmp_ge (tgt := 27) hx hb k 120 (by omega) (by omega) d_Rd_signAt_15 (by decide) (fun c_15 => ?_) (fun c_15 => ?_)
    · refine lv_iconst (v := -1) hx hb d_Rd_signAt_27 (by decide) ?_
      have q9 : ((-1) : Int32) = rd_sg tx n k := by simp [rd_sg]; omega
      exact W.iret (v := (-1)) hx hb hr (fun t ht _ => ⟨_, rfl, q9, ht⟩) (fun _ h9 => by cases h9) d_Rd_signAt_28
    · refine lv_aload_n hx hb d_Rd_signAt_18 rfl (lv_at hl 0 rfl) ?_
      refine va_get (D := (dC, dI)) (ci := 3) (v := .ref sa) (C := "PatternText$PatternReader") (T := F_Rd) (N := 9) hx hb hts iw_Rd hown hK hP 0 rfl rfl 0 (by decide) (hts _ kw_64) (fun _ h9 => h9) rfl d_Rd_signAt_19 ?_
      refine lv_iload_n hx hb d_Rd_signAt_22 rfl (lv_at hl 1 rfl) ?_
      refine wy_iald hx hb hK hP 1 0 k rfl rfl (by omega) (by omega) d_Rd_signAt_23 ?_
      refine lv_goto (tgt := 28) hx hb d_Rd_signAt_24 (by decide) ?_
      have q9 : (tx k : Int32) = rd_sg tx n k := by simp [rd_sg]; omega
      exact W.iret (v := tx k) hx hb hr (fun t ht _ => ⟨_, rfl, q9, ht⟩) (fun _ h9 => by cases h9) d_Rd_signAt_28

set_option maxHeartbeats 4000000 in
set_option maxRecDepth 100000 in
/-- signHere -/
theorem c_Rd_signHere (l : Launch) (dC : Nat → ClassId) (dI : Nat → Nat → Nat) (rd : Nat) (sa : Nat) (cI : ClassId) (tx : Nat → Int32) (n : Nat) (pp : Nat) (nu : Int32) (st : Int32) (mo : Int32) (jo : Int32) (vo : Int32) (re : Bool) (hn : n ≤ 120) (hp : pp < 2 ^ 31) : Met l y_Rd_signHere w_Rd_signHere ({ frames := 1, cells := 0, slots := 0, locals := 21 }) (va_Pc [.ref rd] (wy_R (dC, dI) ga_cl [(rd, .inr (3, [.ref sa, .int (nI n), .int (nI pp), .int nu, .int st, .int mo, .int jo, .int vo, .int (bo_I re)])), (sa, .inl (cI, 120, .inl tx))] [(cI, .int)])) (vp_Si (fun r => r = rd_sg tx n pp)) 0 0 (fun _ => False) := by
  refine Met.ofW (cc := b_Rd_signHere) (maxL := 1) (ret := (some .int)) (by decide) rfl ?_
  intro p e s m args below meth c s₁ B hml hv
  obtain ⟨rfl, hP, hK, hN⟩ := hv
  have hx := B.exec
  have hb := B.bytes
  have hr := B.returns
  have hts : ∀ w ∈ ga_tbl, w.before _ s = true := fun w h => atoms_spec (ws := w_Rd_signHere) B.pre w (List.mem_cons_of_mem _ h)
  have hown : s.vm.findClass "PatternText$PatternReader" = some m.cls := findClass_of_methodNamed B.named
  have hlocks := B.notSynchronized
  have hl := lv_entry ([.ref rd]) (n := 1) (Nat.le_of_ble_eq_true rfl)
  rw [lg_entry_eq]
  generalize (lg_sl ([.ref rd]) ++ List.replicate (1 - (lg_sl ([.ref rd])).length) Slot.unset).toArray = ls at hl ⊢
  have hl : lv_has ls 1 [(0, .ref rd)] := hl
  refine lv_aload_n hx hb d_Rd_signHere_0 rfl (lv_at hl 0 rfl) ?_
  refine lv_aload_n hx hb d_Rd_signHere_1 rfl (lv_at hl 0 rfl) ?_
  refine va_get (D := (dC, dI)) (ci := 3) (v := .int (nI pp)) (C := "PatternText$PatternReader") (T := F_Rd) (N := 9) hx hb hts iw_Rd hown hK hP 0 rfl rfl 2 (by decide) (hts _ kw_66) (fun _ h9 => h9) rfl d_Rd_signHere_2 ?_
  refine vp_callSi (va_runV (As := [.int (nI pp)]) (rest := []) ⟨hx, hb, hml, hown, hts⟩ (c_Rd_signAt l dC dI rd sa cI tx n (nI pp) nu st mo jo vo re pp (by omega) (by omega)) (cwV 1 hts (ga_V kw_209 kw_211 kw_2 kw_35 (ga_in kw_212)) rfl rfl rfl (by decide +kernel) ⟨Nat.le_of_ble_eq_true rfl, Nat.le_of_ble_eq_true rfl⟩) (wy_preV 0 (hP.sub (ws' := [(rd, .inr (3, [.ref sa, .int (nI n), .int (nI pp), .int nu, .int st, .int mo, .int jo, .int vo, .int (bo_I re)])), (sa, .inl (cI, 120, .inl tx))]) [0, 1] rfl) (hK.sub (tys' := [(cI, .int)]) [0] rfl) hN (ci := 3) rfl rfl rfl) rfl rfl hl.1 rfl (lv_room (Nat.le_of_ble_eq_true rfl)) d_Rd_signHere_5 ⟨Nat.le_of_ble_eq_true rfl, Nat.le_of_ble_eq_true rfl⟩).run (fun r_5 h_5 => ?_)
  subst h_5
  have q9 : (rd_sg tx n pp : Int32) = rd_sg tx n pp := by rfl
  exact W.iret (v := rd_sg tx n pp) hx hb hr (fun t ht _ => ⟨_, rfl, q9, ht⟩) (fun _ h9 => by cases h9) d_Rd_signHere_8

set_option maxHeartbeats 4000000 in
set_option maxRecDepth 100000 in
/-- takeSpace -/
theorem c_Rd_takeSpace (l : Launch) (dC : Nat → ClassId) (dI : Nat → Nat → Nat) (sz : Nat) (rd : Nat) (sa : Nat) (cI : ClassId) (tx : Nat → Int32) (n : Nat) (pp : Nat) (nu : Int32) (st : Int32) (mo : Int32) (jo : Int32) (vo : Int32) (re : Bool) (hn : n ≤ 120) (hp : pp < 2 ^ 31) : Met l y_Rd_takeSpace w_Rd_takeSpace ({ frames := 2, cells := 0, slots := 0, locals := 41 }) (va_Pc [.ref rd] (wy_M (dC, dI) ga_cl [(rd, .inr (3, [.ref sa, .int (nI n), .int (nI pp), .int nu, .int st, .int mo, .int jo, .int vo, .int (bo_I re)])), (sa, .inl (cI, 120, .inl tx))] [(cI, .int)] sz)) (va_Qi (fun (r : Int32) (_ : Unit) => r = bo_I (rd_sp tx n pp)) (fun _ => wy_N (dC, dI) ga_cl [(cI, .int)] (va_A [(rd, .inr (3, [.ref sa, .int (nI n), .int (nI pp), .int nu, .int st, .int mo, .int jo, .int vo, .int (bo_I re)])), (sa, .inl (cI, 120, .inl tx))] sz) [(rd, .inr (3, [.ref sa, .int (nI n), .int (nI (cond (rd_sp tx n pp) (pp + 1) pp)), .int nu, .int st, .int mo, .int jo, .int vo, .int (bo_I re)])), (sa, .inl (cI, 120, .inl tx))]) (va_A [(rd, .inr (3, [.ref sa, .int (nI n), .int (nI pp), .int nu, .int st, .int mo, .int jo, .int vo, .int (bo_I re)])), (sa, .inl (cI, 120, .inl tx))] sz)) 0 0 (va_A [(rd, .inr (3, [.ref sa, .int (nI n), .int (nI pp), .int nu, .int st, .int mo, .int jo, .int vo, .int (bo_I re)])), (sa, .inl (cI, 120, .inl tx))] sz) := by
  refine Met.ofW (cc := b_Rd_takeSpace) (maxL := 1) (ret := (some .boolean)) (by decide) rfl ?_
  intro p e s m args below meth c s₁ B hml hv
  obtain ⟨rfl, hsz, hP, hK, hN, hD0⟩ := hv
  have hx := B.exec
  have hb := B.bytes
  have hr := B.returns
  have hts : ∀ w ∈ ga_tbl, w.before _ s = true := fun w h => atoms_spec (ws := w_Rd_takeSpace) B.pre w (List.mem_cons_of_mem _ h)
  have hown : s.vm.findClass "PatternText$PatternReader" = some m.cls := findClass_of_methodNamed B.named
  have hlocks := B.notSynchronized
  subst hsz
  have hD := hD0.self (sz := s.heap.size)
  generalize hAe : va_A [(rd, .inr (3, [.ref sa, .int (nI n), .int (nI pp), .int nu, .int st, .int mo, .int jo, .int vo, .int (bo_I re)])), (sa, .inl (cI, 120, .inl tx))] s.heap.size = A at hD ⊢
  have hA : ∀ q : Nat, s.heap.size ≤ q → A q := fun q h => by rw [← hAe]; exact Or.inr h
  have hS : va_S A s.heap s.heap [] := va_S.rf
  have hl := lv_entry ([.ref rd]) (n := 1) (Nat.le_of_ble_eq_true rfl)
  rw [lg_entry_eq]
  generalize (lg_sl ([.ref rd]) ++ List.replicate (1 - (lg_sl ([.ref rd])).length) Slot.unset).toArray = ls at hl ⊢
  have hl : lv_has ls 1 [(0, .ref rd)] := hl
  obtain ⟨Q0, hQ⟩ : ∃ Q0 : State → Prop, Q0 = MQ below (va_Qi (fun (r : Int32) (_ : Unit) => r = bo_I (rd_sp tx n pp)) (fun _ => wy_N (dC, dI) ga_cl [(cI, .int)] A [(rd, .inr (3, [.ref sa, .int (nI n), .int (nI (cond (rd_sp tx n pp) (pp + 1) pp)), .int nu, .int st, .int mo, .int jo, .int vo, .int (bo_I re)])), (sa, .inl (cI, 120, .inl tx))]) A) ([.ref rd] : List Value).toArray s 0 0 A := ⟨_, rfl⟩
  show W p l e ({ frames := 2, cells := 0, slots := 0, locals := 41 }) s m ([.ref rd] : List Value).toArray below meth c s.heap [] 0 0 (MQ below (va_Qi (fun (r : Int32) (_ : Unit) => r = bo_I (rd_sp tx n pp)) (fun _ => wy_N (dC, dI) ga_cl [(cI, .int)] A [(rd, .inr (3, [.ref sa, .int (nI n), .int (nI (cond (rd_sp tx n pp) (pp + 1) pp)), .int nu, .int st, .int mo, .int jo, .int vo, .int (bo_I re)])), (sa, .inl (cI, 120, .inl tx))]) A) ([.ref rd] : List Value).toArray s 0 0 A) (F0 m 0 ls [])
  rw [← hQ]
  refine lv_aload_n hx hb d_Rd_takeSpace_0 rfl (lv_at hl 0 rfl) ?_
  refine vp_callSi (va_runV (As := []) (rest := []) ⟨hx, hb, hml, hown, hts⟩ (c_Rd_signHere l dC dI rd sa cI tx n pp nu st mo jo vo re (by omega) (by omega)) (cwV 0 hts (ga_V kw_258 kw_260 kw_4 kw_35 (ga_in kw_261)) rfl rfl rfl (by decide +kernel) ⟨Nat.le_of_ble_eq_true rfl, Nat.le_of_ble_eq_true rfl⟩) (wy_preV 0 (hP.sub (ws' := [(rd, .inr (3, [.ref sa, .int (nI n), .int (nI pp), .int nu, .int st, .int mo, .int jo, .int vo, .int (bo_I re)])), (sa, .inl (cI, 120, .inl tx))]) [0, 1] rfl) (hK.sub (tys' := [(cI, .int)]) [0] rfl) hN (ci := 3) rfl rfl rfl) rfl rfl hl.1 rfl (lv_room (Nat.le_of_ble_eq_true rfl)) d_Rd_takeSpace_1 ⟨Nat.le_of_ble_eq_true rfl, Nat.le_of_ble_eq_true rfl⟩).run (fun r_1 h_1 => ?_)
  subst h_1
  refine lv_bipush (v := 32) hx hb d_Rd_takeSpace_4 (by decide) ?_
  refine lv_icmp_eq (tgt := 11) hx hb d_Rd_takeSpace_6 (by decide) (fun c_6 => ?_) (fun c_6 => ?_)
  · refine lv_aload_n hx hb d_Rd_takeSpace_11 rfl (lv_at hl 0 rfl) ?_
    refine lv_dup hx hb d_Rd_takeSpace_12 rfl ?_
    refine va_get (D := (dC, dI)) (ci := 3) (v := .int (nI pp)) (C := "PatternText$PatternReader") (T := F_Rd) (N := 9) hx hb hts iw_Rd hown hK hP 0 rfl rfl 2 (by decide) (hts _ kw_66) (fun _ h9 => h9) rfl d_Rd_takeSpace_13 ?_
    refine lv_iconst (v := 1) hx hb d_Rd_takeSpace_16 (by decide) ?_
    refine wy_iadd hx hb pp 1 d_Rd_takeSpace_17 ?_
    refine va_put (D := (dC, dI)) (ci := 3) (v := .int (nI (pp + 1))) (ty := .int) (C := "PatternText$PatternReader") (T := F_Rd) (N := 9) hx hb hts iw_Rd t_Rd t_Rd_ok n_Rd hown hK hP hD hS 0 rfl rfl 2 (by decide) (hts _ kw_66) (fun _ h9 => h9) rfl (by decide +kernel) rfl rfl (Nat.le_of_ble_eq_true rfl) d_Rd_takeSpace_18 (fun H locs hP hD hS => ?_)
    have hP : va_P (dC, dI) ga_cl [(rd, .inr (3, [.ref sa, .int (nI n), .int (nI (pp + 1)), .int nu, .int st, .int mo, .int jo, .int vo, .int (bo_I re)])), (sa, .inl (cI, 120, .inl tx))] H := hP
    have hD : va_D A [(rd, .inr (3, [.ref sa, .int (nI n), .int (nI (pp + 1)), .int nu, .int st, .int mo, .int jo, .int vo, .int (bo_I re)])), (sa, .inl (cI, 120, .inl tx))] := hD
    refine lv_iconst (v := 1) hx hb d_Rd_takeSpace_21 (by decide) ?_
    rw [hQ]
    have q9 : (1 : Int32) = bo_I (rd_sp tx n pp) := by simp [rd_sp, bo_I, *]
    have e9 : ([(rd, .inr (3, [.ref sa, .int (nI n), .int (nI (cond (rd_sp tx n pp) (pp + 1) pp)), .int nu, .int st, .int mo, .int jo, .int vo, .int (bo_I re)])), (sa, .inl (cI, 120, .inl tx))] : va_W) = [(rd, .inr (3, [.ref sa, .int (nI n), .int (nI (pp + 1)), .int nu, .int st, .int mo, .int jo, .int vo, .int (bo_I re)])), (sa, .inl (cI, 120, .inl tx))] := by simp [rd_sp, *]
    exact W.zret (v := 1) hx hb hr rfl (fun t ht hW => ⟨⟨_, (), rfl, q9, by rw [ht, e9]; exact hP, va_K.moved hW.alike hK, by rw [e9]; exact hD⟩, hS.F ht⟩) hS.2.2 d_Rd_takeSpace_22
  · refine lv_iconst (v := 0) hx hb d_Rd_takeSpace_9 (by decide) ?_
    rw [hQ]
    have q9 : (0 : Int32) = bo_I (rd_sp tx n pp) := by simp [rd_sp, bo_I, *]
    have e9 : ([(rd, .inr (3, [.ref sa, .int (nI n), .int (nI (cond (rd_sp tx n pp) (pp + 1) pp)), .int nu, .int st, .int mo, .int jo, .int vo, .int (bo_I re)])), (sa, .inl (cI, 120, .inl tx))] : va_W) = [(rd, .inr (3, [.ref sa, .int (nI n), .int (nI pp), .int nu, .int st, .int mo, .int jo, .int vo, .int (bo_I re)])), (sa, .inl (cI, 120, .inl tx))] := by simp [rd_sp, *]
    exact W.zret (v := 0) hx hb hr rfl (fun t ht hW => ⟨⟨_, (), rfl, q9, by rw [ht, e9]; exact hP, va_K.moved hW.alike hK, by rw [e9]; exact hD⟩, hS.F ht⟩) hS.2.2 d_Rd_takeSpace_10
