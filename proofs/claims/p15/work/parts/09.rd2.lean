set_option maxHeartbeats 4000000 in
set_option maxRecDepth 100000 in
/-- takeWord -/
theorem c_Rd_takeWord (l : Launch) (dC : Nat → ClassId) (dI : Nat → Nat → Nat) (sz : Nat) (ad : Nat → Nat) (av : Nat → Nat) (rd : Nat) (sa : Nat) (cI : ClassId) (tx : Nat → Int32) (n : Nat) (pp : Nat) (nu : Int32) (st : Int32) (mo : Int32) (jo : Int32) (vo : Int32) (re : Bool) (i : Nat) (hn : n ≤ 120) (hp : pp ≤ n) (hi : i < 8) : Met l y_Rd_takeWord w_Rd_takeWord ({ frames := 4, cells := 0, slots := 0, locals := 85 }) (va_Pc [.ref rd, .ref (ad i)] (wy_ME (dC, dI) ga_cl [(rd, .inr (3, [.ref sa, .int (nI n), .int (nI pp), .int nu, .int st, .int mo, .int jo, .int vo, .int (bo_I re)])), (sa, .inl (cI, 120, .inl tx))] [(cI, .int)] sz ad av)) (va_Qi (fun (r : Int32) (_ : Unit) => r = bo_I (rd_word tx n pp (sv_w i) (sv_len i))) (fun _ => wy_N (dC, dI) ga_cl [(cI, .int)] (va_A [(rd, .inr (3, [.ref sa, .int (nI n), .int (nI pp), .int nu, .int st, .int mo, .int jo, .int vo, .int (bo_I re)])), (sa, .inl (cI, 120, .inl tx))] sz) [(rd, .inr (3, [.ref sa, .int (nI n), .int (nI (cond (rd_word tx n pp (sv_w i) (sv_len i)) (pp + sv_len i) pp)), .int nu, .int st, .int mo, .int jo, .int vo, .int (bo_I re)])), (sa, .inl (cI, 120, .inl tx))]) (va_A [(rd, .inr (3, [.ref sa, .int (nI n), .int (nI pp), .int nu, .int st, .int mo, .int jo, .int vo, .int (bo_I re)])), (sa, .inl (cI, 120, .inl tx))] sz)) 0 0 (va_A [(rd, .inr (3, [.ref sa, .int (nI n), .int (nI pp), .int nu, .int st, .int mo, .int jo, .int vo, .int (bo_I re)])), (sa, .inl (cI, 120, .inl tx))] sz) := by
  refine Met.ofW (cc := b_Rd_takeWord) (maxL := 4) (ret := (some .boolean)) (by decide) rfl ?_
  intro p e s m args below meth c s₁ B hml hv
  obtain ⟨rfl, hsz, hP, hK, hN, hE, hD0⟩ := hv
  have hx := B.exec
  have hb := B.bytes
  have hr := B.returns
  have hts : ∀ w ∈ ga_tbl, w.before _ s = true := fun w h => atoms_spec (ws := w_Rd_takeWord) B.pre w (List.mem_cons_of_mem _ h)
  have hown : s.vm.findClass "PatternText$PatternReader" = some m.cls := findClass_of_methodNamed B.named
  have hlocks := B.notSynchronized
  subst hsz
  have hD := hD0.self (sz := s.heap.size)
  generalize hAe : va_A [(rd, .inr (3, [.ref sa, .int (nI n), .int (nI pp), .int nu, .int st, .int mo, .int jo, .int vo, .int (bo_I re)])), (sa, .inl (cI, 120, .inl tx))] s.heap.size = A at hD hE ⊢
  have hA : ∀ q : Nat, s.heap.size ≤ q → A q := fun q h => by rw [← hAe]; exact Or.inr h
  have hS : va_S A s.heap s.heap [] := va_S.rf
  have hl := lv_entry ([.ref rd, .ref (ad i)]) (n := 4) (Nat.le_of_ble_eq_true rfl)
  rw [lg_entry_eq]
  generalize (lg_sl ([.ref rd, .ref (ad i)]) ++ List.replicate (4 - (lg_sl ([.ref rd, .ref (ad i)])).length) Slot.unset).toArray = ls at hl ⊢
  have hl : lv_has ls 4 [(0, .ref rd), (1, .ref (ad i))] := hl
  obtain ⟨Q0, hQ⟩ : ∃ Q0 : State → Prop, Q0 = MQ below (va_Qi (fun (r : Int32) (_ : Unit) => r = bo_I (rd_word tx n pp (sv_w i) (sv_len i))) (fun _ => wy_N (dC, dI) ga_cl [(cI, .int)] A [(rd, .inr (3, [.ref sa, .int (nI n), .int (nI (cond (rd_word tx n pp (sv_w i) (sv_len i)) (pp + sv_len i) pp)), .int nu, .int st, .int mo, .int jo, .int vo, .int (bo_I re)])), (sa, .inl (cI, 120, .inl tx))]) A) ([.ref rd, .ref (ad i)] : List Value).toArray s 0 0 A := ⟨_, rfl⟩
  show W p l e ({ frames := 4, cells := 0, slots := 0, locals := 85 }) s m ([.ref rd, .ref (ad i)] : List Value).toArray below meth c s.heap [] 0 0 (MQ below (va_Qi (fun (r : Int32) (_ : Unit) => r = bo_I (rd_word tx n pp (sv_w i) (sv_len i))) (fun _ => wy_N (dC, dI) ga_cl [(cI, .int)] A [(rd, .inr (3, [.ref sa, .int (nI n), .int (nI (cond (rd_word tx n pp (sv_w i) (sv_len i)) (pp + sv_len i) pp)), .int nu, .int st, .int mo, .int jo, .int vo, .int (bo_I re)])), (sa, .inl (cI, 120, .inl tx))]) A) ([.ref rd, .ref (ad i)] : List Value).toArray s 0 0 A) (F0 m 0 ls [])
  rw [← hQ]
  have h7 := sv_len_le i
  refine lv_aload_n hx hb d_Rd_takeWord_0 rfl (lv_at hl 0 rfl) ?_
  refine va_get (D := (dC, dI)) (ci := 3) (v := .int (nI pp)) (C := "PatternText$PatternReader") (T := F_Rd) (N := 9) hx hb hts iw_Rd hown hK hP 0 rfl rfl 2 (by decide) (hts _ kw_66) (fun _ h9 => h9) rfl d_Rd_takeWord_1 ?_
  refine lv_aload_n hx hb d_Rd_takeWord_4 rfl (lv_at hl 1 rfl) ?_
  refine vp_callSi (va_runV (As := []) (rest := [.int (nI pp)]) ⟨hx, hb, hml, hown, hts⟩ (c_Js_length l dC dI ad av A i (hi)) (cwV 0 hts (ga_V kw_199 kw_200 kw_201 kw_39 (ga_in kw_202)) rfl rfl rfl (by decide +kernel) ⟨Nat.le_of_ble_eq_true rfl, Nat.le_of_ble_eq_true rfl⟩) (wy_preTE i (hi) (hP.sub (ws' := []) [] rfl) (hK.sub (tys' := []) [] rfl) hN hE hS) rfl rfl hl.1 rfl (lv_room (Nat.le_of_ble_eq_true rfl)) d_Rd_takeWord_5 ⟨Nat.le_of_ble_eq_true rfl, Nat.le_of_ble_eq_true rfl⟩).run (fun r_5 h_5 => ?_)
  subst h_5
  refine wy_iadd hx hb pp (sv_len i) d_Rd_takeWord_8 ?_
  refine lv_istore_n (lv' := [(2, .int (nI (pp + (sv_len i)))), (0, .ref rd), (1, .ref (ad i))]) hx hb d_Rd_takeWord_9 rfl hl (by decide) rfl (fun ls hl => ?_)
  refine lv_iload_n hx hb d_Rd_takeWord_10 rfl (lv_at hl 0 rfl) ?_
  refine lv_aload_n hx hb d_Rd_takeWord_11 rfl (lv_at hl 1 rfl) ?_
  refine va_get (D := (dC, dI)) (ci := 3) (v := .int (nI n)) (C := "PatternText$PatternReader") (T := F_Rd) (N := 9) hx hb hts iw_Rd hown hK hP 0 rfl rfl 1 (by decide) (hts _ kw_65) (fun _ h9 => h9) rfl d_Rd_takeWord_12 ?_
  refine wy_icmp_gt (tgt := 29) hx hb (pp + (sv_len i)) n (by omega) (by omega) d_Rd_takeWord_15 (by decide) (fun c_15 => ?_) (fun c_15 => ?_)
  · refine lv_iconst (v := 0) hx hb d_Rd_takeWord_29 (by decide) ?_
    rw [hQ]
    have z9 : rd_word tx n pp (sv_w i) (sv_len i) = false := by simp only [rd_word, decide_eq_false (show ¬ pp + sv_len i ≤ n by omega), Bool.false_and]
    have q9 : (0 : Int32) = bo_I (rd_word tx n pp (sv_w i) (sv_len i)) := by rw [z9]; rfl
    have e9 : ([(rd, .inr (3, [.ref sa, .int (nI n), .int (nI (cond (rd_word tx n pp (sv_w i) (sv_len i)) (pp + sv_len i) pp)), .int nu, .int st, .int mo, .int jo, .int vo, .int (bo_I re)])), (sa, .inl (cI, 120, .inl tx))] : va_W) = [(rd, .inr (3, [.ref sa, .int (nI n), .int (nI pp), .int nu, .int st, .int mo, .int jo, .int vo, .int (bo_I re)])), (sa, .inl (cI, 120, .inl tx))] := by rw [z9] <;> rfl
    exact W.zret (v := 0) hx hb hr rfl (fun t ht hW => ⟨⟨_, (), rfl, q9, by rw [ht, e9]; exact hP, va_K.moved hW.alike hK, by rw [e9]; exact hD⟩, hS.F ht⟩) hS.2.2 d_Rd_takeWord_30
  · refine lv_aload_n hx hb d_Rd_takeWord_18 rfl (lv_at hl 1 rfl) ?_
    refine lv_iload_n hx hb d_Rd_takeWord_19 rfl (lv_at hl 0 rfl) ?_
    refine vp_callSi (va_runV (As := [.int (nI (pp + (sv_len i)))]) (rest := []) ⟨hx, hb, hml, hown, hts⟩ (c_Rd_signAt l dC dI rd sa cI tx n (nI pp) nu st mo jo vo re (pp + (sv_len i)) (by omega) (by omega)) (cwV 1 hts (ga_V kw_209 kw_211 kw_2 kw_35 (ga_in kw_212)) rfl rfl rfl (by decide +kernel) ⟨Nat.le_of_ble_eq_true rfl, Nat.le_of_ble_eq_true rfl⟩) (wy_preV 0 (hP.sub (ws' := [(rd, .inr (3, [.ref sa, .int (nI n), .int (nI pp), .int nu, .int st, .int mo, .int jo, .int vo, .int (bo_I re)])), (sa, .inl (cI, 120, .inl tx))]) [0, 1] rfl) (hK.sub (tys' := [(cI, .int)]) [0] rfl) hN (ci := 3) rfl rfl rfl) rfl rfl hl.1 rfl (lv_room (Nat.le_of_ble_eq_true rfl)) d_Rd_takeWord_20 ⟨Nat.le_of_ble_eq_true rfl, Nat.le_of_ble_eq_true rfl⟩).run (fun r_20 h_20 => ?_)
    subst h_20
    refine vp_callSi (va_runS (As := [.int (rd_sg tx n (pp + (sv_len i)))]) (rest := []) ⟨hx, hb, hml, hown, hts⟩ (c_Rd_isLetter l dC dI (rd_sg tx n (pp + (sv_len i))) ) (cwS 1 hts (ga_S kw_213 kw_214 kw_35 (ga_in kw_215)) rfl rfl rfl (by decide +kernel) ⟨Nat.le_of_ble_eq_true rfl, Nat.le_of_ble_eq_true rfl⟩) (wy_preS (hP.sub (ws' := []) [] rfl) (hK.sub (tys' := []) [] rfl) hN) rfl rfl hl.1 rfl (lv_room (Nat.le_of_ble_eq_true rfl)) d_Rd_takeWord_23 ⟨Nat.le_of_ble_eq_true rfl, Nat.le_of_ble_eq_true rfl⟩).run (fun r_23 h_23 => ?_)
    subst h_23
    refine wy_ifeqB (tgt := 31) hx hb d_Rd_takeWord_26 (by decide) (fun c_26 => ?_) (fun c_26 => ?_)
    · refine lv_iconst (v := 0) hx hb d_Rd_takeWord_31 (by decide) ?_
      refine lv_istore_n (lv' := [(3, .int 0), (2, .int (nI (pp + (sv_len i)))), (0, .ref rd), (1, .ref (ad i))]) hx hb d_Rd_takeWord_32 rfl hl (by decide) rfl (fun ls hl => ?_)
      have loop_33 : ∀ (fu : Nat) (k : Nat), (k ≤ sv_len i) → (∀ j, j < k → rd_sg tx n (pp + j) = sv_w i j) → sv_len i - k < fu → ∀ (H : Heap) (locs : List Loc), va_P (dC, dI) ga_cl [(rd, .inr (3, [.ref sa, .int (nI n), .int (nI pp), .int nu, .int st, .int mo, .int jo, .int vo, .int (bo_I re)])), (sa, .inl (cI, 120, .inl tx))] H → va_D A [(rd, .inr (3, [.ref sa, .int (nI n), .int (nI pp), .int nu, .int st, .int mo, .int jo, .int vo, .int (bo_I re)])), (sa, .inl (cI, 120, .inl tx))] → va_S A s.heap H locs → ∀ (ls : Array Slot), lv_has ls 4 [(0, .ref rd), (1, .ref (ad i)), (2, .int (nI (pp + (sv_len i)))), (3, .int (nI k))] → W p l e ({ frames := 4, cells := 0, slots := 0, locals := 85 }) s m ([.ref rd, .ref (ad i)] : List Value).toArray below meth c H locs 0 0 Q0 (F0 m 33 ls []) := by
        intro fu
        induction fu with
        | zero => intro k hk hq hmu; exact absurd hmu (Nat.not_lt_zero _)
        | succ fu ih_33 =>
          intro k hk hq hmu H locs hP hD hS ls hl
          refine lv_iload_n hx hb d_Rd_takeWord_33 rfl (lv_at hl 3 rfl) ?_
          refine lv_aload_n hx hb d_Rd_takeWord_34 rfl (lv_at hl 1 rfl) ?_
          refine vp_callSi (va_runV (As := []) (rest := [.int (nI k)]) ⟨hx, hb, hml, hown, hts⟩ (c_Js_length l dC dI ad av A i (hi)) (cwV 0 hts (ga_V kw_199 kw_200 kw_201 kw_39 (ga_in kw_202)) rfl rfl rfl (by decide +kernel) ⟨Nat.le_of_ble_eq_true rfl, Nat.le_of_ble_eq_true rfl⟩) (wy_preTE i (hi) (hP.sub (ws' := []) [] rfl) (hK.sub (tys' := []) [] rfl) hN hE hS) rfl rfl hl.1 rfl (lv_room (Nat.le_of_ble_eq_true rfl)) d_Rd_takeWord_35 ⟨Nat.le_of_ble_eq_true rfl, Nat.le_of_ble_eq_true rfl⟩).run (fun r_35 h_35 => ?_)
          subst h_35
          refine wy_icmp_ge (tgt := 67) hx hb k (sv_len i) (by omega) (by omega) d_Rd_takeWord_38 (by decide) (fun c_38 => ?_) (fun c_38 => ?_)
          · refine lv_aload_n hx hb d_Rd_takeWord_67 rfl (lv_at hl 0 rfl) ?_
            refine lv_iload_n hx hb d_Rd_takeWord_68 rfl (lv_at hl 2 rfl) ?_
            refine va_put (D := (dC, dI)) (ci := 3) (v := .int (nI (pp + (sv_len i)))) (ty := .int) (C := "PatternText$PatternReader") (T := F_Rd) (N := 9) hx hb hts iw_Rd t_Rd t_Rd_ok n_Rd hown hK hP hD hS 0 rfl rfl 2 (by decide) (hts _ kw_66) (fun _ h9 => h9) rfl (by decide +kernel) rfl rfl (Nat.le_of_ble_eq_true rfl) d_Rd_takeWord_69 (fun H locs hP hD hS => ?_)
            have hP : va_P (dC, dI) ga_cl [(rd, .inr (3, [.ref sa, .int (nI n), .int (nI (pp + (sv_len i))), .int nu, .int st, .int mo, .int jo, .int vo, .int (bo_I re)])), (sa, .inl (cI, 120, .inl tx))] H := hP
            have hD : va_D A [(rd, .inr (3, [.ref sa, .int (nI n), .int (nI (pp + (sv_len i))), .int nu, .int st, .int mo, .int jo, .int vo, .int (bo_I re)])), (sa, .inl (cI, 120, .inl tx))] := hD
            refine lv_iconst (v := 1) hx hb d_Rd_takeWord_72 (by decide) ?_
            rw [hQ]
            have z9 : rd_word tx n pp (sv_w i) (sv_len i) = true := by simp only [rd_word, rd_eqw, Bool.and_eq_true, decide_eq_true_eq]; exact ⟨c_15, by rw [c_26]; rfl, fun j hj => hq j (by omega)⟩
            have q9 : (1 : Int32) = bo_I (rd_word tx n pp (sv_w i) (sv_len i)) := by rw [z9]; rfl
            have e9 : ([(rd, .inr (3, [.ref sa, .int (nI n), .int (nI (cond (rd_word tx n pp (sv_w i) (sv_len i)) (pp + sv_len i) pp)), .int nu, .int st, .int mo, .int jo, .int vo, .int (bo_I re)])), (sa, .inl (cI, 120, .inl tx))] : va_W) = [(rd, .inr (3, [.ref sa, .int (nI n), .int (nI (pp + (sv_len i))), .int nu, .int st, .int mo, .int jo, .int vo, .int (bo_I re)])), (sa, .inl (cI, 120, .inl tx))] := by rw [z9] <;> rfl
            exact W.zret (v := 1) hx hb hr rfl (fun t ht hW => ⟨⟨_, (), rfl, q9, by rw [ht, e9]; exact hP, va_K.moved hW.alike hK, by rw [e9]; exact hD⟩, hS.F ht⟩) hS.2.2 d_Rd_takeWord_73
          · refine lv_aload_n hx hb d_Rd_takeWord_41 rfl (lv_at hl 0 rfl) ?_
            refine lv_aload_n hx hb d_Rd_takeWord_42 rfl (lv_at hl 0 rfl) ?_
            refine va_get (D := (dC, dI)) (ci := 3) (v := .int (nI pp)) (C := "PatternText$PatternReader") (T := F_Rd) (N := 9) hx hb hts iw_Rd hown hK hP 0 rfl rfl 2 (by decide) (hts _ kw_66) (fun _ h9 => h9) rfl d_Rd_takeWord_43 ?_
            refine lv_iload_n hx hb d_Rd_takeWord_46 rfl (lv_at hl 3 rfl) ?_
            refine wy_iadd hx hb pp k d_Rd_takeWord_47 ?_
            refine vp_callSi (va_runV (As := [.int (nI (pp + k))]) (rest := []) ⟨hx, hb, hml, hown, hts⟩ (c_Rd_signAt l dC dI rd sa cI tx n (nI pp) nu st mo jo vo re (pp + k) (by omega) (by omega)) (cwV 1 hts (ga_V kw_209 kw_211 kw_2 kw_35 (ga_in kw_212)) rfl rfl rfl (by decide +kernel) ⟨Nat.le_of_ble_eq_true rfl, Nat.le_of_ble_eq_true rfl⟩) (wy_preV 0 (hP.sub (ws' := [(rd, .inr (3, [.ref sa, .int (nI n), .int (nI pp), .int nu, .int st, .int mo, .int jo, .int vo, .int (bo_I re)])), (sa, .inl (cI, 120, .inl tx))]) [0, 1] rfl) (hK.sub (tys' := [(cI, .int)]) [0] rfl) hN (ci := 3) rfl rfl rfl) rfl rfl hl.1 rfl (lv_room (Nat.le_of_ble_eq_true rfl)) d_Rd_takeWord_48 ⟨Nat.le_of_ble_eq_true rfl, Nat.le_of_ble_eq_true rfl⟩).run (fun r_48 h_48 => ?_)
            subst h_48
            refine lv_aload_n hx hb d_Rd_takeWord_51 rfl (lv_at hl 1 rfl) ?_
            refine lv_iload_n hx hb d_Rd_takeWord_52 rfl (lv_at hl 3 rfl) ?_
            refine vp_callSi (va_runV (As := [.int (nI k)]) (rest := [.int (rd_sg tx n (pp + k))]) ⟨hx, hb, hml, hown, hts⟩ (c_Js_charAt l dC dI ad av A i k (hi) (by omega)) (cwV 1 hts (ga_V kw_216 kw_217 kw_218 kw_39 (ga_in kw_219)) rfl rfl rfl (by decide +kernel) ⟨Nat.le_of_ble_eq_true rfl, Nat.le_of_ble_eq_true rfl⟩) (wy_preTE i (hi) (hP.sub (ws' := []) [] rfl) (hK.sub (tys' := []) [] rfl) hN hE hS) rfl rfl hl.1 rfl (lv_room (Nat.le_of_ble_eq_true rfl)) d_Rd_takeWord_53 ⟨Nat.le_of_ble_eq_true rfl, Nat.le_of_ble_eq_true rfl⟩).run (fun r_53 h_53 => ?_)
            subst h_53
            refine lv_icmp_eq (tgt := 61) hx hb d_Rd_takeWord_56 (by decide) (fun c_56 => ?_) (fun c_56 => ?_)
            · refine wy_iinc (x := k) (lv' := [(3, .int (nI (k + 1))), (0, .ref rd), (1, .ref (ad i)), (2, .int (nI (pp + (sv_len i))))]) hx hb d_Rd_takeWord_61 hl (k := 3) rfl (by decide) rfl (fun ls hl => ?_)
              refine lv_goto (tgt := 33) hx hb d_Rd_takeWord_64 (by decide) ?_
              exact ih_33 (k + 1) (by omega) (lt_s hq c_56) (by omega) H locs hP hD hS ls (lv_sub hl [1, 2, 3, 0] rfl)
            · refine lv_iconst (v := 0) hx hb d_Rd_takeWord_59 (by decide) ?_
              rw [hQ]
              have z9 : rd_word tx n pp (sv_w i) (sv_len i) = false := by simp only [rd_word, rd_eqw, decide_eq_false (show ¬ ∀ j, j < sv_len i → rd_sg tx n (pp + j) = sv_w i j from fun z => c_56 (z k (by omega))), Bool.and_false]
              have q9 : (0 : Int32) = bo_I (rd_word tx n pp (sv_w i) (sv_len i)) := by rw [z9]; rfl
              have e9 : ([(rd, .inr (3, [.ref sa, .int (nI n), .int (nI (cond (rd_word tx n pp (sv_w i) (sv_len i)) (pp + sv_len i) pp)), .int nu, .int st, .int mo, .int jo, .int vo, .int (bo_I re)])), (sa, .inl (cI, 120, .inl tx))] : va_W) = [(rd, .inr (3, [.ref sa, .int (nI n), .int (nI pp), .int nu, .int st, .int mo, .int jo, .int vo, .int (bo_I re)])), (sa, .inl (cI, 120, .inl tx))] := by rw [z9] <;> rfl
              exact W.zret (v := 0) hx hb hr rfl (fun t ht hW => ⟨⟨_, (), rfl, q9, by rw [ht, e9]; exact hP, va_K.moved hW.alike hK, by rw [e9]; exact hD⟩, hS.F ht⟩) hS.2.2 d_Rd_takeWord_60
      exact loop_33 _ 0 (by omega) (fun j hj => absurd hj (Nat.not_lt_zero _)) (Nat.lt_succ_self _) s.heap ([]) hP hD hS ls (lv_sub hl [2, 3, 1, 0] rfl)
    · refine lv_iconst (v := 0) hx hb d_Rd_takeWord_29 (by decide) ?_
      rw [hQ]
      have z9 : rd_word tx n pp (sv_w i) (sv_len i) = false := by simp only [rd_word, c_26, Bool.not_true, Bool.false_and, Bool.and_false]
      have q9 : (0 : Int32) = bo_I (rd_word tx n pp (sv_w i) (sv_len i)) := by rw [z9]; rfl
      have e9 : ([(rd, .inr (3, [.ref sa, .int (nI n), .int (nI (cond (rd_word tx n pp (sv_w i) (sv_len i)) (pp + sv_len i) pp)), .int nu, .int st, .int mo, .int jo, .int vo, .int (bo_I re)])), (sa, .inl (cI, 120, .inl tx))] : va_W) = [(rd, .inr (3, [.ref sa, .int (nI n), .int (nI pp), .int nu, .int st, .int mo, .int jo, .int vo, .int (bo_I re)])), (sa, .inl (cI, 120, .inl tx))] := by rw [z9] <;> rfl
      exact W.zret (v := 0) hx hb hr rfl (fun t ht hW => ⟨⟨_, (), rfl, q9, by rw [ht, e9]; exact hP, va_K.moved hW.alike hK, by rw [e9]; exact hD⟩, hS.F ht⟩) hS.2.2 d_Rd_takeWord_30

set_option maxHeartbeats 4000000 in
set_option maxRecDepth 100000 in
/-- takeNumber -/
theorem c_Rd_takeNumber (l : Launch) (dC : Nat → ClassId) (dI : Nat → Nat → Nat) (sz : Nat) (rd : Nat) (sa : Nat) (cI : ClassId) (tx : Nat → Int32) (n : Nat) (pp : Nat) (nu : Int32) (st : Int32) (mo : Int32) (jo : Int32) (vo : Int32) (re : Bool) (lo : Nat) (hi : Nat) (hn : n ≤ 120) (hp : pp ≤ n) (hlo : lo < 2 ^ 31) (hhi : hi < 2 ^ 31) : Met l y_Rd_takeNumber w_Rd_takeNumber ({ frames := 2, cells := 0, slots := 0, locals := 41 }) (va_Pc [.ref rd, .int (nI lo), .int (nI hi)] (wy_M (dC, dI) ga_cl [(rd, .inr (3, [.ref sa, .int (nI n), .int (nI pp), .int nu, .int st, .int mo, .int jo, .int vo, .int (bo_I re)])), (sa, .inl (cI, 120, .inl tx))] [(cI, .int)] sz)) (va_Qi (fun (r : Int32) (_ : Unit) => r = bo_I (rd_num tx n lo hi pp)) (fun _ => wy_N (dC, dI) ga_cl [(cI, .int)] (va_A [(rd, .inr (3, [.ref sa, .int (nI n), .int (nI pp), .int nu, .int st, .int mo, .int jo, .int vo, .int (bo_I re)])), (sa, .inl (cI, 120, .inl tx))] sz) [(rd, .inr (3, [.ref sa, .int (nI n), .int (nI (cond (rd_num tx n lo hi pp) (rd_end tx n pp) pp)), .int (cond (rd_num tx n lo hi pp) (nI (rd_val tx n pp)) nu), .int st, .int mo, .int jo, .int vo, .int (bo_I re)])), (sa, .inl (cI, 120, .inl tx))]) (va_A [(rd, .inr (3, [.ref sa, .int (nI n), .int (nI pp), .int nu, .int st, .int mo, .int jo, .int vo, .int (bo_I re)])), (sa, .inl (cI, 120, .inl tx))] sz)) 0 0 (va_A [(rd, .inr (3, [.ref sa, .int (nI n), .int (nI pp), .int nu, .int st, .int mo, .int jo, .int vo, .int (bo_I re)])), (sa, .inl (cI, 120, .inl tx))] sz) := by
  refine Met.ofW (cc := b_Rd_takeNumber) (maxL := 7) (ret := (some .boolean)) (by decide) rfl ?_
  intro p e s m args below meth c s₁ B hml hv
  obtain ⟨rfl, hsz, hP, hK, hN, hD0⟩ := hv
  have hx := B.exec
  have hb := B.bytes
  have hr := B.returns
  have hts : ∀ w ∈ ga_tbl, w.before _ s = true := fun w h => atoms_spec (ws := w_Rd_takeNumber) B.pre w (List.mem_cons_of_mem _ h)
  have hown : s.vm.findClass "PatternText$PatternReader" = some m.cls := findClass_of_methodNamed B.named
  have hlocks := B.notSynchronized
  subst hsz
  have hD := hD0.self (sz := s.heap.size)
  generalize hAe : va_A [(rd, .inr (3, [.ref sa, .int (nI n), .int (nI pp), .int nu, .int st, .int mo, .int jo, .int vo, .int (bo_I re)])), (sa, .inl (cI, 120, .inl tx))] s.heap.size = A at hD ⊢
  have hA : ∀ q : Nat, s.heap.size ≤ q → A q := fun q h => by rw [← hAe]; exact Or.inr h
  have hS : va_S A s.heap s.heap [] := va_S.rf
  have hl := lv_entry ([.ref rd, .int (nI lo), .int (nI hi)]) (n := 7) (Nat.le_of_ble_eq_true rfl)
  rw [lg_entry_eq]
  generalize (lg_sl ([.ref rd, .int (nI lo), .int (nI hi)]) ++ List.replicate (7 - (lg_sl ([.ref rd, .int (nI lo), .int (nI hi)])).length) Slot.unset).toArray = ls at hl ⊢
  have hl : lv_has ls 7 [(0, .ref rd), (1, .int (nI lo)), (2, .int (nI hi))] := hl
  obtain ⟨Q0, hQ⟩ : ∃ Q0 : State → Prop, Q0 = MQ below (va_Qi (fun (r : Int32) (_ : Unit) => r = bo_I (rd_num tx n lo hi pp)) (fun _ => wy_N (dC, dI) ga_cl [(cI, .int)] A [(rd, .inr (3, [.ref sa, .int (nI n), .int (nI (cond (rd_num tx n lo hi pp) (rd_end tx n pp) pp)), .int (cond (rd_num tx n lo hi pp) (nI (rd_val tx n pp)) nu), .int st, .int mo, .int jo, .int vo, .int (bo_I re)])), (sa, .inl (cI, 120, .inl tx))]) A) ([.ref rd, .int (nI lo), .int (nI hi)] : List Value).toArray s 0 0 A := ⟨_, rfl⟩
  show W p l e ({ frames := 2, cells := 0, slots := 0, locals := 41 }) s m ([.ref rd, .int (nI lo), .int (nI hi)] : List Value).toArray below meth c s.heap [] 0 0 (MQ below (va_Qi (fun (r : Int32) (_ : Unit) => r = bo_I (rd_num tx n lo hi pp)) (fun _ => wy_N (dC, dI) ga_cl [(cI, .int)] A [(rd, .inr (3, [.ref sa, .int (nI n), .int (nI (cond (rd_num tx n lo hi pp) (rd_end tx n pp) pp)), .int (cond (rd_num tx n lo hi pp) (nI (rd_val tx n pp)) nu), .int st, .int mo, .int jo, .int vo, .int (bo_I re)])), (sa, .inl (cI, 120, .inl tx))]) A) ([.ref rd, .int (nI lo), .int (nI hi)] : List Value).toArray s 0 0 A) (F0 m 0 ls [])
  rw [← hQ]
  refine lv_aload_n hx hb d_Rd_takeNumber_0 rfl (lv_at hl 0 rfl) ?_
  refine va_get (D := (dC, dI)) (ci := 3) (v := .int (nI pp)) (C := "PatternText$PatternReader") (T := F_Rd) (N := 9) hx hb hts iw_Rd hown hK hP 0 rfl rfl 2 (by decide) (hts _ kw_66) (fun _ h9 => h9) rfl d_Rd_takeNumber_1 ?_
  refine lv_istore_n (lv' := [(3, .int (nI pp)), (0, .ref rd), (1, .int (nI lo)), (2, .int (nI hi))]) hx hb d_Rd_takeNumber_4 rfl hl (by decide) rfl (fun ls hl => ?_)
  refine lv_iconst (v := 0) hx hb d_Rd_takeNumber_5 (by decide) ?_
  refine lv_istore (lv' := [(4, .int 0), (3, .int (nI pp)), (0, .ref rd), (1, .int (nI lo)), (2, .int (nI hi))]) hx hb d_Rd_takeNumber_6 hl (by decide) rfl (fun ls hl => ?_)
  have loop_8 : ∀ (fu : Nat) (ee : Nat) (vv : Nat), (pp ≤ ee) → (ee ≤ n) → (vv ≤ 100) → (rd_dg tx n (n - ee) ee vv = rd_dg tx n (n - pp) pp 0) → n - ee < fu → ∀ (H : Heap) (locs : List Loc), va_P (dC, dI) ga_cl [(rd, .inr (3, [.ref sa, .int (nI n), .int (nI pp), .int nu, .int st, .int mo, .int jo, .int vo, .int (bo_I re)])), (sa, .inl (cI, 120, .inl tx))] H → va_D A [(rd, .inr (3, [.ref sa, .int (nI n), .int (nI pp), .int nu, .int st, .int mo, .int jo, .int vo, .int (bo_I re)])), (sa, .inl (cI, 120, .inl tx))] → va_S A s.heap H locs → ∀ (ls : Array Slot), lv_has ls 7 [(0, .ref rd), (1, .int (nI lo)), (2, .int (nI hi)), (3, .int (nI ee)), (4, .int (nI vv))] → W p l e ({ frames := 2, cells := 0, slots := 0, locals := 41 }) s m ([.ref rd, .int (nI lo), .int (nI hi)] : List Value).toArray below meth c H locs 0 0 Q0 (F0 m 8 ls []) := by
    intro fu
    induction fu with
    | zero => intro ee vv h1 h2 h3 hR hmu; exact absurd hmu (Nat.not_lt_zero _)
    | succ fu ih_8 =>
      intro ee vv h1 h2 h3 hR hmu H locs hP hD hS ls hl
      have join_54 : (rd_dg tx n (n - pp) pp 0 = (ee, vv)) → ∀ (H : Heap) (locs : List Loc), va_P (dC, dI) ga_cl [(rd, .inr (3, [.ref sa, .int (nI n), .int (nI pp), .int nu, .int st, .int mo, .int jo, .int vo, .int (bo_I re)])), (sa, .inl (cI, 120, .inl tx))] H → va_D A [(rd, .inr (3, [.ref sa, .int (nI n), .int (nI pp), .int nu, .int st, .int mo, .int jo, .int vo, .int (bo_I re)])), (sa, .inl (cI, 120, .inl tx))] → va_S A s.heap H locs → ∀ (ls : Array Slot), lv_has ls 7 [(0, .ref rd), (1, .int (nI lo)), (2, .int (nI hi)), (3, .int (nI ee)), (4, .int (nI vv))] → W p l e ({ frames := 2, cells := 0, slots := 0, locals := 41 }) s m ([.ref rd, .int (nI lo), .int (nI hi)] : List Value).toArray below meth c H locs 0 0 Q0 (F0 m 54 ls []) := by
        intro  hX H locs hP hD hS ls hl
        refine lv_iload_n hx hb d_Rd_takeNumber_54 rfl (lv_at hl 3 rfl) ?_
        refine lv_aload_n hx hb d_Rd_takeNumber_55 rfl (lv_at hl 0 rfl) ?_
        refine va_get (D := (dC, dI)) (ci := 3) (v := .int (nI pp)) (C := "PatternText$PatternReader") (T := F_Rd) (N := 9) hx hb hts iw_Rd hown hK hP 0 rfl rfl 2 (by decide) (hts _ kw_66) (fun _ h9 => h9) rfl d_Rd_takeNumber_56 ?_
        refine wy_icmp_ne (tgt := 66) hx hb ee pp (by omega) (by omega) d_Rd_takeNumber_59 (by decide) (fun c_59 => ?_) (fun c_59 => ?_)
        · refine lv_iconst (v := 0) hx hb d_Rd_takeNumber_66 (by decide) ?_
          refine lv_istore (lv' := [(5, .int 0), (0, .ref rd), (1, .int (nI lo)), (2, .int (nI hi)), (3, .int (nI ee)), (4, .int (nI vv))]) hx hb d_Rd_takeNumber_67 hl (by decide) rfl (fun ls hl => ?_)
          refine lv_aload_n hx hb d_Rd_takeNumber_69 rfl (lv_at hl 1 rfl) ?_
          refine vp_callSi (va_runV (As := []) (rest := []) ⟨hx, hb, hml, hown, hts⟩ (c_Rd_signHere l dC dI rd sa cI tx n pp nu st mo jo vo re (by omega) (by omega)) (cwV 0 hts (ga_V kw_258 kw_260 kw_4 kw_35 (ga_in kw_261)) rfl rfl rfl (by decide +kernel) ⟨Nat.le_of_ble_eq_true rfl, Nat.le_of_ble_eq_true rfl⟩) (wy_preV 0 (hP.sub (ws' := [(rd, .inr (3, [.ref sa, .int (nI n), .int (nI pp), .int nu, .int st, .int mo, .int jo, .int vo, .int (bo_I re)])), (sa, .inl (cI, 120, .inl tx))]) [0, 1] rfl) (hK.sub (tys' := [(cI, .int)]) [0] rfl) hN (ci := 3) rfl rfl rfl) rfl rfl hl.1 rfl (lv_room (Nat.le_of_ble_eq_true rfl)) d_Rd_takeNumber_70 ⟨Nat.le_of_ble_eq_true rfl, Nat.le_of_ble_eq_true rfl⟩).run (fun r_70 h_70 => ?_)
          subst h_70
          refine lv_bipush (v := 48) hx hb d_Rd_takeNumber_73 (by decide) ?_
          refine lv_icmp_ne (tgt := 92) hx hb d_Rd_takeNumber_75 (by decide) (fun c_75 => ?_) (fun c_75 => ?_)
          · refine lv_iconst (v := 0) hx hb d_Rd_takeNumber_92 (by decide) ?_
            refine lv_istore (lv' := [(6, .int 0), (5, .int 0), (0, .ref rd), (1, .int (nI lo)), (2, .int (nI hi)), (3, .int (nI ee)), (4, .int (nI vv))]) hx hb d_Rd_takeNumber_93 hl (by decide) rfl (fun ls hl => ?_)
            refine lv_iload hx hb d_Rd_takeNumber_95 (lv_at hl 1 rfl) ?_
            refine lv_if_ne (tgt := 117) hx hb d_Rd_takeNumber_97 (by decide) (fun z9 => absurd z9 (by decide)) (fun _ => ?_)
            refine lv_iload hx hb d_Rd_takeNumber_100 (lv_at hl 0 rfl) ?_
            refine lv_if_ne (tgt := 117) hx hb d_Rd_takeNumber_102 (by decide) (fun z9 => absurd z9 (by decide)) (fun _ => ?_)
            refine lv_iload hx hb d_Rd_takeNumber_105 (lv_at hl 6 rfl) ?_
            refine lv_iload_n hx hb d_Rd_takeNumber_107 rfl (lv_at hl 3 rfl) ?_
            refine wy_icmp_lt (tgt := 117) hx hb vv lo (by omega) (by omega) d_Rd_takeNumber_108 (by decide) (fun c_108 => ?_) (fun c_108 => ?_)
            · refine lv_iconst (v := 0) hx hb d_Rd_takeNumber_117 (by decide) ?_
              rw [hQ]
              have he : rd_end tx n pp = ee := by unfold rd_end; rw [hX]
              have hv : rd_val tx n pp = vv := by unfold rd_val; rw [hX]
              have z9 : rd_num tx n lo hi pp = false := by simp only [rd_num, he, hv]; by_cases hs : rd_sg tx n pp = 48 <;> simp [hs] <;> first | omega | (simp [hs] at * <;> omega) | (simp_all <;> omega)
              have q9 : (0 : Int32) = bo_I (rd_num tx n lo hi pp) := by rw [z9]; rfl
              have e9 : ([(rd, .inr (3, [.ref sa, .int (nI n), .int (nI (cond (rd_num tx n lo hi pp) (rd_end tx n pp) pp)), .int (cond (rd_num tx n lo hi pp) (nI (rd_val tx n pp)) nu), .int st, .int mo, .int jo, .int vo, .int (bo_I re)])), (sa, .inl (cI, 120, .inl tx))] : va_W) = [(rd, .inr (3, [.ref sa, .int (nI n), .int (nI pp), .int nu, .int st, .int mo, .int jo, .int vo, .int (bo_I re)])), (sa, .inl (cI, 120, .inl tx))] := by rw [z9]; rfl
              exact W.zret (v := 0) hx hb hr rfl (fun t ht hW => ⟨⟨_, (), rfl, q9, by rw [ht, e9]; exact hP, va_K.moved hW.alike hK, by rw [e9]; exact hD⟩, hS.F ht⟩) hS.2.2 d_Rd_takeNumber_118
            · refine lv_iload hx hb d_Rd_takeNumber_111 (lv_at hl 6 rfl) ?_
              refine lv_iload_n hx hb d_Rd_takeNumber_113 rfl (lv_at hl 4 rfl) ?_
              refine wy_icmp_le (tgt := 119) hx hb vv hi (by omega) (by omega) d_Rd_takeNumber_114 (by decide) (fun c_114 => ?_) (fun c_114 => ?_)
              · refine lv_aload_n hx hb d_Rd_takeNumber_119 rfl (lv_at hl 2 rfl) ?_
                refine lv_iload hx hb d_Rd_takeNumber_120 (lv_at hl 6 rfl) ?_
                refine va_put (D := (dC, dI)) (ci := 3) (v := .int (nI vv)) (ty := .int) (C := "PatternText$PatternReader") (T := F_Rd) (N := 9) hx hb hts iw_Rd t_Rd t_Rd_ok n_Rd hown hK hP hD hS 0 rfl rfl 3 (by decide) (hts _ kw_68) (fun _ h9 => h9) rfl (by decide +kernel) rfl rfl (Nat.le_of_ble_eq_true rfl) d_Rd_takeNumber_122 (fun H locs hP hD hS => ?_)
                have hP : va_P (dC, dI) ga_cl [(rd, .inr (3, [.ref sa, .int (nI n), .int (nI pp), .int (nI vv), .int st, .int mo, .int jo, .int vo, .int (bo_I re)])), (sa, .inl (cI, 120, .inl tx))] H := hP
                have hD : va_D A [(rd, .inr (3, [.ref sa, .int (nI n), .int (nI pp), .int (nI vv), .int st, .int mo, .int jo, .int vo, .int (bo_I re)])), (sa, .inl (cI, 120, .inl tx))] := hD
                refine lv_aload_n hx hb d_Rd_takeNumber_125 rfl (lv_at hl 2 rfl) ?_
                refine lv_iload_n hx hb d_Rd_takeNumber_126 rfl (lv_at hl 5 rfl) ?_
                refine va_put (D := (dC, dI)) (ci := 3) (v := .int (nI ee)) (ty := .int) (C := "PatternText$PatternReader") (T := F_Rd) (N := 9) hx hb hts iw_Rd t_Rd t_Rd_ok n_Rd hown hK hP hD hS 0 rfl rfl 2 (by decide) (hts _ kw_66) (fun _ h9 => h9) rfl (by decide +kernel) rfl rfl (Nat.le_of_ble_eq_true rfl) d_Rd_takeNumber_127 (fun H locs hP hD hS => ?_)
                have hP : va_P (dC, dI) ga_cl [(rd, .inr (3, [.ref sa, .int (nI n), .int (nI ee), .int (nI vv), .int st, .int mo, .int jo, .int vo, .int (bo_I re)])), (sa, .inl (cI, 120, .inl tx))] H := hP
                have hD : va_D A [(rd, .inr (3, [.ref sa, .int (nI n), .int (nI ee), .int (nI vv), .int st, .int mo, .int jo, .int vo, .int (bo_I re)])), (sa, .inl (cI, 120, .inl tx))] := hD
                refine lv_iconst (v := 1) hx hb d_Rd_takeNumber_130 (by decide) ?_
                rw [hQ]
                have he : rd_end tx n pp = ee := by unfold rd_end; rw [hX]
                have hv : rd_val tx n pp = vv := by unfold rd_val; rw [hX]
                have z9 : rd_num tx n lo hi pp = true := by simp only [rd_num, he, hv]; by_cases hs : rd_sg tx n pp = 48 <;> simp [hs] <;> first | omega | (simp [hs] at * <;> omega) | (simp_all <;> omega)
                have q9 : (1 : Int32) = bo_I (rd_num tx n lo hi pp) := by rw [z9]; rfl
                have e9 : ([(rd, .inr (3, [.ref sa, .int (nI n), .int (nI (cond (rd_num tx n lo hi pp) (rd_end tx n pp) pp)), .int (cond (rd_num tx n lo hi pp) (nI (rd_val tx n pp)) nu), .int st, .int mo, .int jo, .int vo, .int (bo_I re)])), (sa, .inl (cI, 120, .inl tx))] : va_W) = [(rd, .inr (3, [.ref sa, .int (nI n), .int (nI ee), .int (nI vv), .int st, .int mo, .int jo, .int vo, .int (bo_I re)])), (sa, .inl (cI, 120, .inl tx))] := by rw [z9, he, hv]; rfl
                exact W.zret (v := 1) hx hb hr rfl (fun t ht hW => ⟨⟨_, (), rfl, q9, by rw [ht, e9]; exact hP, va_K.moved hW.alike hK, by rw [e9]; exact hD⟩, hS.F ht⟩) hS.2.2 d_Rd_takeNumber_131
              · refine lv_iconst (v := 0) hx hb d_Rd_takeNumber_117 (by decide) ?_
                rw [hQ]
                have he : rd_end tx n pp = ee := by unfold rd_end; rw [hX]
                have hv : rd_val tx n pp = vv := by unfold rd_val; rw [hX]
                have z9 : rd_num tx n lo hi pp = false := by simp only [rd_num, he, hv]; by_cases hs : rd_sg tx n pp = 48 <;> simp [hs] <;> first | omega | (simp [hs] at * <;> omega) | (simp_all <;> omega)
                have q9 : (0 : Int32) = bo_I (rd_num tx n lo hi pp) := by rw [z9]; rfl
                have e9 : ([(rd, .inr (3, [.ref sa, .int (nI n), .int (nI (cond (rd_num tx n lo hi pp) (rd_end tx n pp) pp)), .int (cond (rd_num tx n lo hi pp) (nI (rd_val tx n pp)) nu), .int st, .int mo, .int jo, .int vo, .int (bo_I re)])), (sa, .inl (cI, 120, .inl tx))] : va_W) = [(rd, .inr (3, [.ref sa, .int (nI n), .int (nI pp), .int nu, .int st, .int mo, .int jo, .int vo, .int (bo_I re)])), (sa, .inl (cI, 120, .inl tx))] := by rw [z9]; rfl
                exact W.zret (v := 0) hx hb hr rfl (fun t ht hW => ⟨⟨_, (), rfl, q9, by rw [ht, e9]; exact hP, va_K.moved hW.alike hK, by rw [e9]; exact hD⟩, hS.F ht⟩) hS.2.2 d_Rd_takeNumber_118
          · refine lv_iload_n hx hb d_Rd_takeNumber_78 rfl (lv_at hl 4 rfl) ?_
            refine lv_aload_n hx hb d_Rd_takeNumber_79 rfl (lv_at hl 1 rfl) ?_
            refine va_get (D := (dC, dI)) (ci := 3) (v := .int (nI pp)) (C := "PatternText$PatternReader") (T := F_Rd) (N := 9) hx hb hts iw_Rd hown hK hP 0 rfl rfl 2 (by decide) (hts _ kw_66) (fun _ h9 => h9) rfl d_Rd_takeNumber_80 ?_
            refine wy_isub hx hb ee pp (by omega) d_Rd_takeNumber_83 ?_
            refine lv_iconst (v := 1) hx hb d_Rd_takeNumber_84 (by decide) ?_
            refine wy_icmp_le (tgt := 92) hx hb (ee - pp) 1 (by omega) (by omega) d_Rd_takeNumber_85 (by decide) (fun c_85 => ?_) (fun c_85 => ?_)
            · refine lv_iconst (v := 0) hx hb d_Rd_takeNumber_92 (by decide) ?_
              refine lv_istore (lv' := [(6, .int 0), (5, .int 0), (0, .ref rd), (1, .int (nI lo)), (2, .int (nI hi)), (3, .int (nI ee)), (4, .int (nI vv))]) hx hb d_Rd_takeNumber_93 hl (by decide) rfl (fun ls hl => ?_)
              refine lv_iload hx hb d_Rd_takeNumber_95 (lv_at hl 1 rfl) ?_
              refine lv_if_ne (tgt := 117) hx hb d_Rd_takeNumber_97 (by decide) (fun z9 => absurd z9 (by decide)) (fun _ => ?_)
              refine lv_iload hx hb d_Rd_takeNumber_100 (lv_at hl 0 rfl) ?_
              refine lv_if_ne (tgt := 117) hx hb d_Rd_takeNumber_102 (by decide) (fun z9 => absurd z9 (by decide)) (fun _ => ?_)
              refine lv_iload hx hb d_Rd_takeNumber_105 (lv_at hl 6 rfl) ?_
              refine lv_iload_n hx hb d_Rd_takeNumber_107 rfl (lv_at hl 3 rfl) ?_
              refine wy_icmp_lt (tgt := 117) hx hb vv lo (by omega) (by omega) d_Rd_takeNumber_108 (by decide) (fun c_108 => ?_) (fun c_108 => ?_)
              · refine lv_iconst (v := 0) hx hb d_Rd_takeNumber_117 (by decide) ?_
                rw [hQ]
                have he : rd_end tx n pp = ee := by unfold rd_end; rw [hX]
                have hv : rd_val tx n pp = vv := by unfold rd_val; rw [hX]
                have z9 : rd_num tx n lo hi pp = false := by simp only [rd_num, he, hv]; by_cases hs : rd_sg tx n pp = 48 <;> simp [hs] <;> first | omega | (simp [hs] at * <;> omega) | (simp_all <;> omega)
                have q9 : (0 : Int32) = bo_I (rd_num tx n lo hi pp) := by rw [z9]; rfl
                have e9 : ([(rd, .inr (3, [.ref sa, .int (nI n), .int (nI (cond (rd_num tx n lo hi pp) (rd_end tx n pp) pp)), .int (cond (rd_num tx n lo hi pp) (nI (rd_val tx n pp)) nu), .int st, .int mo, .int jo, .int vo, .int (bo_I re)])), (sa, .inl (cI, 120, .inl tx))] : va_W) = [(rd, .inr (3, [.ref sa, .int (nI n), .int (nI pp), .int nu, .int st, .int mo, .int jo, .int vo, .int (bo_I re)])), (sa, .inl (cI, 120, .inl tx))] := by rw [z9]; rfl
                exact W.zret (v := 0) hx hb hr rfl (fun t ht hW => ⟨⟨_, (), rfl, q9, by rw [ht, e9]; exact hP, va_K.moved hW.alike hK, by rw [e9]; exact hD⟩, hS.F ht⟩) hS.2.2 d_Rd_takeNumber_118
              · refine lv_iload hx hb d_Rd_takeNumber_111 (lv_at hl 6 rfl) ?_
                refine lv_iload_n hx hb d_Rd_takeNumber_113 rfl (lv_at hl 4 rfl) ?_
                refine wy_icmp_le (tgt := 119) hx hb vv hi (by omega) (by omega) d_Rd_takeNumber_114 (by decide) (fun c_114 => ?_) (fun c_114 => ?_)
                · refine lv_aload_n hx hb d_Rd_takeNumber_119 rfl (lv_at hl 2 rfl) ?_
                  refine lv_iload hx hb d_Rd_takeNumber_120 (lv_at hl 6 rfl) ?_
                  refine va_put (D := (dC, dI)) (ci := 3) (v := .int (nI vv)) (ty := .int) (C := "PatternText$PatternReader") (T := F_Rd) (N := 9) hx hb hts iw_Rd t_Rd t_Rd_ok n_Rd hown hK hP hD hS 0 rfl rfl 3 (by decide) (hts _ kw_68) (fun _ h9 => h9) rfl (by decide +kernel) rfl rfl (Nat.le_of_ble_eq_true rfl) d_Rd_takeNumber_122 (fun H locs hP hD hS => ?_)
                  have hP : va_P (dC, dI) ga_cl [(rd, .inr (3, [.ref sa, .int (nI n), .int (nI pp), .int (nI vv), .int st, .int mo, .int jo, .int vo, .int (bo_I re)])), (sa, .inl (cI, 120, .inl tx))] H := hP
                  have hD : va_D A [(rd, .inr (3, [.ref sa, .int (nI n), .int (nI pp), .int (nI vv), .int st, .int mo, .int jo, .int vo, .int (bo_I re)])), (sa, .inl (cI, 120, .inl tx))] := hD
                  refine lv_aload_n hx hb d_Rd_takeNumber_125 rfl (lv_at hl 2 rfl) ?_
                  refine lv_iload_n hx hb d_Rd_takeNumber_126 rfl (lv_at hl 5 rfl) ?_
                  refine va_put (D := (dC, dI)) (ci := 3) (v := .int (nI ee)) (ty := .int) (C := "PatternText$PatternReader") (T := F_Rd) (N := 9) hx hb hts iw_Rd t_Rd t_Rd_ok n_Rd hown hK hP hD hS 0 rfl rfl 2 (by decide) (hts _ kw_66) (fun _ h9 => h9) rfl (by decide +kernel) rfl rfl (Nat.le_of_ble_eq_true rfl) d_Rd_takeNumber_127 (fun H locs hP hD hS => ?_)
                  have hP : va_P (dC, dI) ga_cl [(rd, .inr (3, [.ref sa, .int (nI n), .int (nI ee), .int (nI vv), .int st, .int mo, .int jo, .int vo, .int (bo_I re)])), (sa, .inl (cI, 120, .inl tx))] H := hP
                  have hD : va_D A [(rd, .inr (3, [.ref sa, .int (nI n), .int (nI ee), .int (nI vv), .int st, .int mo, .int jo, .int vo, .int (bo_I re)])), (sa, .inl (cI, 120, .inl tx))] := hD
                  refine lv_iconst (v := 1) hx hb d_Rd_takeNumber_130 (by decide) ?_
                  rw [hQ]
                  have he : rd_end tx n pp = ee := by unfold rd_end; rw [hX]
                  have hv : rd_val tx n pp = vv := by unfold rd_val; rw [hX]
                  have z9 : rd_num tx n lo hi pp = true := by simp only [rd_num, he, hv]; by_cases hs : rd_sg tx n pp = 48 <;> simp [hs] <;> first | omega | (simp [hs] at * <;> omega) | (simp_all <;> omega)
                  have q9 : (1 : Int32) = bo_I (rd_num tx n lo hi pp) := by rw [z9]; rfl
                  have e9 : ([(rd, .inr (3, [.ref sa, .int (nI n), .int (nI (cond (rd_num tx n lo hi pp) (rd_end tx n pp) pp)), .int (cond (rd_num tx n lo hi pp) (nI (rd_val tx n pp)) nu), .int st, .int mo, .int jo, .int vo, .int (bo_I re)])), (sa, .inl (cI, 120, .inl tx))] : va_W) = [(rd, .inr (3, [.ref sa, .int (nI n), .int (nI ee), .int (nI vv), .int st, .int mo, .int jo, .int vo, .int (bo_I re)])), (sa, .inl (cI, 120, .inl tx))] := by rw [z9, he, hv]; rfl
                  exact W.zret (v := 1) hx hb hr rfl (fun t ht hW => ⟨⟨_, (), rfl, q9, by rw [ht, e9]; exact hP, va_K.moved hW.alike hK, by rw [e9]; exact hD⟩, hS.F ht⟩) hS.2.2 d_Rd_takeNumber_131
                · refine lv_iconst (v := 0) hx hb d_Rd_takeNumber_117 (by decide) ?_
                  rw [hQ]
                  have he : rd_end tx n pp = ee := by unfold rd_end; rw [hX]
                  have hv : rd_val tx n pp = vv := by unfold rd_val; rw [hX]
                  have z9 : rd_num tx n lo hi pp = false := by simp only [rd_num, he, hv]; by_cases hs : rd_sg tx n pp = 48 <;> simp [hs] <;> first | omega | (simp [hs] at * <;> omega) | (simp_all <;> omega)
                  have q9 : (0 : Int32) = bo_I (rd_num tx n lo hi pp) := by rw [z9]; rfl
                  have e9 : ([(rd, .inr (3, [.ref sa, .int (nI n), .int (nI (cond (rd_num tx n lo hi pp) (rd_end tx n pp) pp)), .int (cond (rd_num tx n lo hi pp) (nI (rd_val tx n pp)) nu), .int st, .int mo, .int jo, .int vo, .int (bo_I re)])), (sa, .inl (cI, 120, .inl tx))] : va_W) = [(rd, .inr (3, [.ref sa, .int (nI n), .int (nI pp), .int nu, .int st, .int mo, .int jo, .int vo, .int (bo_I re)])), (sa, .inl (cI, 120, .inl tx))] := by rw [z9]; rfl
                  exact W.zret (v := 0) hx hb hr rfl (fun t ht hW => ⟨⟨_, (), rfl, q9, by rw [ht, e9]; exact hP, va_K.moved hW.alike hK, by rw [e9]; exact hD⟩, hS.F ht⟩) hS.2.2 d_Rd_takeNumber_118
            · refine lv_iconst (v := 1) hx hb d_Rd_takeNumber_88 (by decide) ?_
              refine lv_goto (tgt := 93) hx hb d_Rd_takeNumber_89 (by decide) ?_
              refine lv_istore (lv' := [(6, .int 1), (5, .int 0), (0, .ref rd), (1, .int (nI lo)), (2, .int (nI hi)), (3, .int (nI ee)), (4, .int (nI vv))]) hx hb d_Rd_takeNumber_93 hl (by decide) rfl (fun ls hl => ?_)
              refine lv_iload hx hb d_Rd_takeNumber_95 (lv_at hl 1 rfl) ?_
              refine lv_if_ne (tgt := 117) hx hb d_Rd_takeNumber_97 (by decide) (fun z9 => absurd z9 (by decide)) (fun _ => ?_)
              refine lv_iload hx hb d_Rd_takeNumber_100 (lv_at hl 0 rfl) ?_
              refine lv_if_ne (tgt := 117) hx hb d_Rd_takeNumber_102 (by decide) (fun _ => ?_) (fun z9 => absurd z9 (by decide))
              refine lv_iconst (v := 0) hx hb d_Rd_takeNumber_117 (by decide) ?_
              rw [hQ]
              have he : rd_end tx n pp = ee := by unfold rd_end; rw [hX]
              have hv : rd_val tx n pp = vv := by unfold rd_val; rw [hX]
              have z9 : rd_num tx n lo hi pp = false := by simp only [rd_num, he, hv]; by_cases hs : rd_sg tx n pp = 48 <;> simp [hs] <;> first | omega | (simp [hs] at * <;> omega) | (simp_all <;> omega)
              have q9 : (0 : Int32) = bo_I (rd_num tx n lo hi pp) := by rw [z9]; rfl
              have e9 : ([(rd, .inr (3, [.ref sa, .int (nI n), .int (nI (cond (rd_num tx n lo hi pp) (rd_end tx n pp) pp)), .int (cond (rd_num tx n lo hi pp) (nI (rd_val tx n pp)) nu), .int st, .int mo, .int jo, .int vo, .int (bo_I re)])), (sa, .inl (cI, 120, .inl tx))] : va_W) = [(rd, .inr (3, [.ref sa, .int (nI n), .int (nI pp), .int nu, .int st, .int mo, .int jo, .int vo, .int (bo_I re)])), (sa, .inl (cI, 120, .inl tx))] := by rw [z9]; rfl
              exact W.zret (v := 0) hx hb hr rfl (fun t ht hW => ⟨⟨_, (), rfl, q9, by rw [ht, e9]; exact hP, va_K.moved hW.alike hK, by rw [e9]; exact hD⟩, hS.F ht⟩) hS.2.2 d_Rd_takeNumber_118
        · refine lv_iconst (v := 1) hx hb d_Rd_takeNumber_62 (by decide) ?_
          refine lv_goto (tgt := 67) hx hb d_Rd_takeNumber_63 (by decide) ?_
          refine lv_istore (lv' := [(5, .int 1), (0, .ref rd), (1, .int (nI lo)), (2, .int (nI hi)), (3, .int (nI ee)), (4, .int (nI vv))]) hx hb d_Rd_takeNumber_67 hl (by decide) rfl (fun ls hl => ?_)
          refine lv_aload_n hx hb d_Rd_takeNumber_69 rfl (lv_at hl 1 rfl) ?_
          refine vp_callSi (va_runV (As := []) (rest := []) ⟨hx, hb, hml, hown, hts⟩ (c_Rd_signHere l dC dI rd sa cI tx n pp nu st mo jo vo re (by omega) (by omega)) (cwV 0 hts (ga_V kw_258 kw_260 kw_4 kw_35 (ga_in kw_261)) rfl rfl rfl (by decide +kernel) ⟨Nat.le_of_ble_eq_true rfl, Nat.le_of_ble_eq_true rfl⟩) (wy_preV 0 (hP.sub (ws' := [(rd, .inr (3, [.ref sa, .int (nI n), .int (nI pp), .int nu, .int st, .int mo, .int jo, .int vo, .int (bo_I re)])), (sa, .inl (cI, 120, .inl tx))]) [0, 1] rfl) (hK.sub (tys' := [(cI, .int)]) [0] rfl) hN (ci := 3) rfl rfl rfl) rfl rfl hl.1 rfl (lv_room (Nat.le_of_ble_eq_true rfl)) d_Rd_takeNumber_70 ⟨Nat.le_of_ble_eq_true rfl, Nat.le_of_ble_eq_true rfl⟩).run (fun r_70 h_70 => ?_)
          subst h_70
          refine lv_bipush (v := 48) hx hb d_Rd_takeNumber_73 (by decide) ?_
          refine lv_icmp_ne (tgt := 92) hx hb d_Rd_takeNumber_75 (by decide) (fun c_75 => ?_) (fun c_75 => ?_)
          · refine lv_iconst (v := 0) hx hb d_Rd_takeNumber_92 (by decide) ?_
            refine lv_istore (lv' := [(6, .int 0), (5, .int 1), (0, .ref rd), (1, .int (nI lo)), (2, .int (nI hi)), (3, .int (nI ee)), (4, .int (nI vv))]) hx hb d_Rd_takeNumber_93 hl (by decide) rfl (fun ls hl => ?_)
            refine lv_iload hx hb d_Rd_takeNumber_95 (lv_at hl 1 rfl) ?_
            refine lv_if_ne (tgt := 117) hx hb d_Rd_takeNumber_97 (by decide) (fun _ => ?_) (fun z9 => absurd z9 (by decide))
            refine lv_iconst (v := 0) hx hb d_Rd_takeNumber_117 (by decide) ?_
            rw [hQ]
            have he : rd_end tx n pp = ee := by unfold rd_end; rw [hX]
            have hv : rd_val tx n pp = vv := by unfold rd_val; rw [hX]
            have z9 : rd_num tx n lo hi pp = false := by simp only [rd_num, he, hv]; by_cases hs : rd_sg tx n pp = 48 <;> simp [hs] <;> first | omega | (simp [hs] at * <;> omega) | (simp_all <;> omega)
            have q9 : (0 : Int32) = bo_I (rd_num tx n lo hi pp) := by rw [z9]; rfl
            have e9 : ([(rd, .inr (3, [.ref sa, .int (nI n), .int (nI (cond (rd_num tx n lo hi pp) (rd_end tx n pp) pp)), .int (cond (rd_num tx n lo hi pp) (nI (rd_val tx n pp)) nu), .int st, .int mo, .int jo, .int vo, .int (bo_I re)])), (sa, .inl (cI, 120, .inl tx))] : va_W) = [(rd, .inr (3, [.ref sa, .int (nI n), .int (nI pp), .int nu, .int st, .int mo, .int jo, .int vo, .int (bo_I re)])), (sa, .inl (cI, 120, .inl tx))] := by rw [z9]; rfl
            exact W.zret (v := 0) hx hb hr rfl (fun t ht hW => ⟨⟨_, (), rfl, q9, by rw [ht, e9]; exact hP, va_K.moved hW.alike hK, by rw [e9]; exact hD⟩, hS.F ht⟩) hS.2.2 d_Rd_takeNumber_118
          · refine lv_iload_n hx hb d_Rd_takeNumber_78 rfl (lv_at hl 4 rfl) ?_
            refine lv_aload_n hx hb d_Rd_takeNumber_79 rfl (lv_at hl 1 rfl) ?_
            refine va_get (D := (dC, dI)) (ci := 3) (v := .int (nI pp)) (C := "PatternText$PatternReader") (T := F_Rd) (N := 9) hx hb hts iw_Rd hown hK hP 0 rfl rfl 2 (by decide) (hts _ kw_66) (fun _ h9 => h9) rfl d_Rd_takeNumber_80 ?_
            refine wy_isub hx hb ee pp (by omega) d_Rd_takeNumber_83 ?_
            refine lv_iconst (v := 1) hx hb d_Rd_takeNumber_84 (by decide) ?_
            refine wy_icmp_le (tgt := 92) hx hb (ee - pp) 1 (by omega) (by omega) d_Rd_takeNumber_85 (by decide) (fun c_85 => ?_) (fun c_85 => ?_)
            · refine lv_iconst (v := 0) hx hb d_Rd_takeNumber_92 (by decide) ?_
              refine lv_istore (lv' := [(6, .int 0), (5, .int 1), (0, .ref rd), (1, .int (nI lo)), (2, .int (nI hi)), (3, .int (nI ee)), (4, .int (nI vv))]) hx hb d_Rd_takeNumber_93 hl (by decide) rfl (fun ls hl => ?_)
              refine lv_iload hx hb d_Rd_takeNumber_95 (lv_at hl 1 rfl) ?_
              refine lv_if_ne (tgt := 117) hx hb d_Rd_takeNumber_97 (by decide) (fun _ => ?_) (fun z9 => absurd z9 (by decide))
              refine lv_iconst (v := 0) hx hb d_Rd_takeNumber_117 (by decide) ?_
              rw [hQ]
              have he : rd_end tx n pp = ee := by unfold rd_end; rw [hX]
              have hv : rd_val tx n pp = vv := by unfold rd_val; rw [hX]
              have z9 : rd_num tx n lo hi pp = false := by simp only [rd_num, he, hv]; by_cases hs : rd_sg tx n pp = 48 <;> simp [hs] <;> first | omega | (simp [hs] at * <;> omega) | (simp_all <;> omega)
              have q9 : (0 : Int32) = bo_I (rd_num tx n lo hi pp) := by rw [z9]; rfl
              have e9 : ([(rd, .inr (3, [.ref sa, .int (nI n), .int (nI (cond (rd_num tx n lo hi pp) (rd_end tx n pp) pp)), .int (cond (rd_num tx n lo hi pp) (nI (rd_val tx n pp)) nu), .int st, .int mo, .int jo, .int vo, .int (bo_I re)])), (sa, .inl (cI, 120, .inl tx))] : va_W) = [(rd, .inr (3, [.ref sa, .int (nI n), .int (nI pp), .int nu, .int st, .int mo, .int jo, .int vo, .int (bo_I re)])), (sa, .inl (cI, 120, .inl tx))] := by rw [z9]; rfl
              exact W.zret (v := 0) hx hb hr rfl (fun t ht hW => ⟨⟨_, (), rfl, q9, by rw [ht, e9]; exact hP, va_K.moved hW.alike hK, by rw [e9]; exact hD⟩, hS.F ht⟩) hS.2.2 d_Rd_takeNumber_118
            · refine lv_iconst (v := 1) hx hb d_Rd_takeNumber_88 (by decide) ?_
              refine lv_goto (tgt := 93) hx hb d_Rd_takeNumber_89 (by decide) ?_
              refine lv_istore (lv' := [(6, .int 1), (5, .int 1), (0, .ref rd), (1, .int (nI lo)), (2, .int (nI hi)), (3, .int (nI ee)), (4, .int (nI vv))]) hx hb d_Rd_takeNumber_93 hl (by decide) rfl (fun ls hl => ?_)
              refine lv_iload hx hb d_Rd_takeNumber_95 (lv_at hl 1 rfl) ?_
              refine lv_if_ne (tgt := 117) hx hb d_Rd_takeNumber_97 (by decide) (fun _ => ?_) (fun z9 => absurd z9 (by decide))
              refine lv_iconst (v := 0) hx hb d_Rd_takeNumber_117 (by decide) ?_
              rw [hQ]
              have he : rd_end tx n pp = ee := by unfold rd_end; rw [hX]
              have hv : rd_val tx n pp = vv := by unfold rd_val; rw [hX]
              have z9 : rd_num tx n lo hi pp = false := by simp only [rd_num, he, hv]; by_cases hs : rd_sg tx n pp = 48 <;> simp [hs] <;> first | omega | (simp [hs] at * <;> omega) | (simp_all <;> omega)
              have q9 : (0 : Int32) = bo_I (rd_num tx n lo hi pp) := by rw [z9]; rfl
              have e9 : ([(rd, .inr (3, [.ref sa, .int (nI n), .int (nI (cond (rd_num tx n lo hi pp) (rd_end tx n pp) pp)), .int (cond (rd_num tx n lo hi pp) (nI (rd_val tx n pp)) nu), .int st, .int mo, .int jo, .int vo, .int (bo_I re)])), (sa, .inl (cI, 120, .inl tx))] : va_W) = [(rd, .inr (3, [.ref sa, .int (nI n), .int (nI pp), .int nu, .int st, .int mo, .int jo, .int vo, .int (bo_I re)])), (sa, .inl (cI, 120, .inl tx))] := by rw [z9]; rfl
              exact W.zret (v := 0) hx hb hr rfl (fun t ht hW => ⟨⟨_, (), rfl, q9, by rw [ht, e9]; exact hP, va_K.moved hW.alike hK, by rw [e9]; exact hD⟩, hS.F ht⟩) hS.2.2 d_Rd_takeNumber_118
      refine lv_iload_n hx hb d_Rd_takeNumber_8 rfl (lv_at hl 3 rfl) ?_
      refine lv_aload_n hx hb d_Rd_takeNumber_9 rfl (lv_at hl 0 rfl) ?_
      refine va_get (D := (dC, dI)) (ci := 3) (v := .int (nI n)) (C := "PatternText$PatternReader") (T := F_Rd) (N := 9) hx hb hts iw_Rd hown hK hP 0 rfl rfl 1 (by decide) (hts _ kw_65) (fun _ h9 => h9) rfl d_Rd_takeNumber_10 ?_
      refine wy_icmp_ge (tgt := 54) hx hb ee n (by omega) (by omega) d_Rd_takeNumber_13 (by decide) (fun c_13 => ?_) (fun c_13 => ?_)
      · exact join_54 (hR.symm.trans (rd_dg_end (by first | exact Or.inl c_13 | exact Or.inr c_24))) H locs hP hD hS ls (lv_sub hl [0, 1, 2, 3, 4] rfl)
      · refine lv_aload_n hx hb d_Rd_takeNumber_16 rfl (lv_at hl 0 rfl) ?_
        refine lv_iload_n hx hb d_Rd_takeNumber_17 rfl (lv_at hl 3 rfl) ?_
        refine vp_callSi (va_runV (As := [.int (nI ee)]) (rest := []) ⟨hx, hb, hml, hown, hts⟩ (c_Rd_signAt l dC dI rd sa cI tx n (nI pp) nu st mo jo vo re ee (by omega) (by omega)) (cwV 1 hts (ga_V kw_209 kw_211 kw_2 kw_35 (ga_in kw_212)) rfl rfl rfl (by decide +kernel) ⟨Nat.le_of_ble_eq_true rfl, Nat.le_of_ble_eq_true rfl⟩) (wy_preV 0 (hP.sub (ws' := [(rd, .inr (3, [.ref sa, .int (nI n), .int (nI pp), .int nu, .int st, .int mo, .int jo, .int vo, .int (bo_I re)])), (sa, .inl (cI, 120, .inl tx))]) [0, 1] rfl) (hK.sub (tys' := [(cI, .int)]) [0] rfl) hN (ci := 3) rfl rfl rfl) rfl rfl hl.1 rfl (lv_room (Nat.le_of_ble_eq_true rfl)) d_Rd_takeNumber_18 ⟨Nat.le_of_ble_eq_true rfl, Nat.le_of_ble_eq_true rfl⟩).run (fun r_18 h_18 => ?_)
        subst h_18
        refine vp_callSi (va_runS (As := [.int (rd_sg tx n ee)]) (rest := []) ⟨hx, hb, hml, hown, hts⟩ (c_Rd_isDigit l dC dI (rd_sg tx n ee) ) (cwS 1 hts (ga_S kw_266 kw_267 kw_35 (ga_in kw_268)) rfl rfl rfl (by decide +kernel) ⟨Nat.le_of_ble_eq_true rfl, Nat.le_of_ble_eq_true rfl⟩) (wy_preS (hP.sub (ws' := []) [] rfl) (hK.sub (tys' := []) [] rfl) hN) rfl rfl hl.1 rfl (lv_room (Nat.le_of_ble_eq_true rfl)) d_Rd_takeNumber_21 ⟨Nat.le_of_ble_eq_true rfl, Nat.le_of_ble_eq_true rfl⟩).run (fun r_21 h_21 => ?_)
        subst h_21
        refine wy_ifeqB (tgt := 54) hx hb d_Rd_takeNumber_24 (by decide) (fun c_24 => ?_) (fun c_24 => ?_)
        · exact join_54 (hR.symm.trans (rd_dg_end (by first | exact Or.inl c_13 | exact Or.inr c_24))) H locs hP hD hS ls (lv_sub hl [0, 1, 2, 3, 4] rfl)
        · obtain ⟨hd1, hd2⟩ := rd_dv_eq c_24
          refine lv_iload hx hb d_Rd_takeNumber_27 (lv_at hl 4 rfl) ?_
          refine lv_bipush (v := 10) hx hb d_Rd_takeNumber_29 (by decide) ?_
          refine wy_imul hx hb vv 10 d_Rd_takeNumber_31 ?_
          refine lv_aload_n hx hb d_Rd_takeNumber_32 rfl (lv_at hl 0 rfl) ?_
          refine lv_iload_n hx hb d_Rd_takeNumber_33 rfl (lv_at hl 3 rfl) ?_
          refine vp_callSi (va_runV (As := [.int (nI ee)]) (rest := [.int (nI (vv * 10))]) ⟨hx, hb, hml, hown, hts⟩ (c_Rd_signAt l dC dI rd sa cI tx n (nI pp) nu st mo jo vo re ee (by omega) (by omega)) (cwV 1 hts (ga_V kw_209 kw_211 kw_2 kw_35 (ga_in kw_212)) rfl rfl rfl (by decide +kernel) ⟨Nat.le_of_ble_eq_true rfl, Nat.le_of_ble_eq_true rfl⟩) (wy_preV 0 (hP.sub (ws' := [(rd, .inr (3, [.ref sa, .int (nI n), .int (nI pp), .int nu, .int st, .int mo, .int jo, .int vo, .int (bo_I re)])), (sa, .inl (cI, 120, .inl tx))]) [0, 1] rfl) (hK.sub (tys' := [(cI, .int)]) [0] rfl) hN (ci := 3) rfl rfl rfl) rfl rfl hl.1 rfl (lv_room (Nat.le_of_ble_eq_true rfl)) d_Rd_takeNumber_34 ⟨Nat.le_of_ble_eq_true rfl, Nat.le_of_ble_eq_true rfl⟩).run (fun r_34 h_34 => ?_)
          subst h_34
          refine wy_cvi (y := nI (rd_dv (rd_sg tx n ee) + 48)) (hd1) ?_
          refine wy_iadd hx hb (vv * 10) (rd_dv (rd_sg tx n ee) + 48) d_Rd_takeNumber_37 ?_
          refine lv_bipush (v := 48) hx hb d_Rd_takeNumber_38 (by decide) ?_
          refine wy_isub hx hb ((vv * 10) + (rd_dv (rd_sg tx n ee) + 48)) 48 (by omega) d_Rd_takeNumber_40 ?_
          refine wy_cvi (y := nI (vv * 10 + rd_dv (rd_sg tx n ee))) (by congr 1 <;> omega) ?_
          refine lv_bipush (v := 100) hx hb d_Rd_takeNumber_41 (by decide) ?_
          refine va_mmin hx hb (hml.trans hl.1.symm) hown (hts _ kw_269) (hts _ kw_270) (hts _ kw_43) (hts _ kw_271) (Nat.le_of_ble_eq_true rfl) (Nat.le_of_ble_eq_true rfl) (Nat.le_of_ble_eq_true rfl) (Nat.le_of_ble_eq_true rfl) d_Rd_takeNumber_43 ?_
          refine wy_cvi (y := nI (min (vv * 10 + rd_dv (rd_sg tx n ee)) 100)) (rd_min _ (by omega)) ?_
          refine lv_istore (lv' := [(4, .int (nI (min (vv * 10 + rd_dv (rd_sg tx n ee)) 100))), (0, .ref rd), (1, .int (nI lo)), (2, .int (nI hi)), (3, .int (nI ee))]) hx hb d_Rd_takeNumber_46 hl (by decide) rfl (fun ls hl => ?_)
          refine wy_iinc (x := ee) (lv' := [(3, .int (nI (ee + 1))), (4, .int (nI (min (vv * 10 + rd_dv (rd_sg tx n ee)) 100))), (0, .ref rd), (1, .int (nI lo)), (2, .int (nI hi))]) hx hb d_Rd_takeNumber_48 hl (k := 4) rfl (by decide) rfl (fun ls hl => ?_)
          refine lv_goto (tgt := 8) hx hb d_Rd_takeNumber_51 (by decide) ?_
          exact ih_8 (ee + 1) (min (vv * 10 + rd_dv (rd_sg tx n ee)) 100) (by omega) (by omega) (Nat.min_le_right _ _) ((rd_dg_go c_13 c_24).symm.trans hR) (by omega) H locs hP hD hS ls (lv_sub hl [2, 3, 4, 0, 1] rfl)
  exact loop_8 _ pp 0 (by omega) (by omega) (by omega) (rfl) (Nat.lt_succ_self _) s.heap ([]) hP hD hS ls (lv_sub hl [2, 3, 4, 1, 0] rfl)

set_option maxHeartbeats 4000000 in
set_option maxRecDepth 100000 in
/-- takeNextWord -/
theorem c_Rd_takeNextWord (l : Launch) (dC : Nat → ClassId) (dI : Nat → Nat → Nat) (sz : Nat) (ad : Nat → Nat) (av : Nat → Nat) (rd : Nat) (sa : Nat) (cI : ClassId) (tx : Nat → Int32) (n : Nat) (pp : Nat) (nu : Int32) (st : Int32) (mo : Int32) (jo : Int32) (vo : Int32) (re : Bool) (i : Nat) (hn : n ≤ 120) (hp : pp ≤ n) (hi : i < 8) : Met l y_Rd_takeNextWord w_Rd_takeNextWord ({ frames := 5, cells := 0, slots := 0, locals := 108 }) (va_Pc [.ref rd, .ref (ad i)] (wy_ME (dC, dI) ga_cl [(rd, .inr (3, [.ref sa, .int (nI n), .int (nI pp), .int nu, .int st, .int mo, .int jo, .int vo, .int (bo_I re)])), (sa, .inl (cI, 120, .inl tx))] [(cI, .int)] sz ad av)) (va_Qi (fun (r : Int32) (_ : Unit) => r = bo_I (rd_next tx n pp (sv_w i) (sv_len i))) (fun _ => wy_N (dC, dI) ga_cl [(cI, .int)] (va_A [(rd, .inr (3, [.ref sa, .int (nI n), .int (nI pp), .int nu, .int st, .int mo, .int jo, .int vo, .int (bo_I re)])), (sa, .inl (cI, 120, .inl tx))] sz) [(rd, .inr (3, [.ref sa, .int (nI n), .int (nI (cond (rd_next tx n pp (sv_w i) (sv_len i)) (pp + 1 + sv_len i) pp)), .int nu, .int st, .int mo, .int jo, .int vo, .int (bo_I re)])), (sa, .inl (cI, 120, .inl tx))]) (va_A [(rd, .inr (3, [.ref sa, .int (nI n), .int (nI pp), .int nu, .int st, .int mo, .int jo, .int vo, .int (bo_I re)])), (sa, .inl (cI, 120, .inl tx))] sz)) 0 0 (va_A [(rd, .inr (3, [.ref sa, .int (nI n), .int (nI pp), .int nu, .int st, .int mo, .int jo, .int vo, .int (bo_I re)])), (sa, .inl (cI, 120, .inl tx))] sz) := by
  refine Met.ofW (cc := b_Rd_takeNextWord) (maxL := 3) (ret := (some .boolean)) (by decide) rfl ?_
  intro p e s m args below meth c s₁ B hml hv
  obtain ⟨rfl, hsz, hP, hK, hN, hE, hD0⟩ := hv
  have hx := B.exec
  have hb := B.bytes
  have hr := B.returns
  have hts : ∀ w ∈ ga_tbl, w.before _ s = true := fun w h => atoms_spec (ws := w_Rd_takeNextWord) B.pre w (List.mem_cons_of_mem _ h)
  have hown : s.vm.findClass "PatternText$PatternReader" = some m.cls := findClass_of_methodNamed B.named
  have hlocks := B.notSynchronized
  subst hsz
  have hD := hD0.self (sz := s.heap.size)
  generalize hAe : va_A [(rd, .inr (3, [.ref sa, .int (nI n), .int (nI pp), .int nu, .int st, .int mo, .int jo, .int vo, .int (bo_I re)])), (sa, .inl (cI, 120, .inl tx))] s.heap.size = A at hD hE ⊢
  have hA : ∀ q : Nat, s.heap.size ≤ q → A q := fun q h => by rw [← hAe]; exact Or.inr h
  have hS : va_S A s.heap s.heap [] := va_S.rf
  have hl := lv_entry ([.ref rd, .ref (ad i)]) (n := 3) (Nat.le_of_ble_eq_true rfl)
  rw [lg_entry_eq]
  generalize (lg_sl ([.ref rd, .ref (ad i)]) ++ List.replicate (3 - (lg_sl ([.ref rd, .ref (ad i)])).length) Slot.unset).toArray = ls at hl ⊢
  have hl : lv_has ls 3 [(0, .ref rd), (1, .ref (ad i))] := hl
  obtain ⟨Q0, hQ⟩ : ∃ Q0 : State → Prop, Q0 = MQ below (va_Qi (fun (r : Int32) (_ : Unit) => r = bo_I (rd_next tx n pp (sv_w i) (sv_len i))) (fun _ => wy_N (dC, dI) ga_cl [(cI, .int)] A [(rd, .inr (3, [.ref sa, .int (nI n), .int (nI (cond (rd_next tx n pp (sv_w i) (sv_len i)) (pp + 1 + sv_len i) pp)), .int nu, .int st, .int mo, .int jo, .int vo, .int (bo_I re)])), (sa, .inl (cI, 120, .inl tx))]) A) ([.ref rd, .ref (ad i)] : List Value).toArray s 0 0 A := ⟨_, rfl⟩
  show W p l e ({ frames := 5, cells := 0, slots := 0, locals := 108 }) s m ([.ref rd, .ref (ad i)] : List Value).toArray below meth c s.heap [] 0 0 (MQ below (va_Qi (fun (r : Int32) (_ : Unit) => r = bo_I (rd_next tx n pp (sv_w i) (sv_len i))) (fun _ => wy_N (dC, dI) ga_cl [(cI, .int)] A [(rd, .inr (3, [.ref sa, .int (nI n), .int (nI (cond (rd_next tx n pp (sv_w i) (sv_len i)) (pp + 1 + sv_len i) pp)), .int nu, .int st, .int mo, .int jo, .int vo, .int (bo_I re)])), (sa, .inl (cI, 120, .inl tx))]) A) ([.ref rd, .ref (ad i)] : List Value).toArray s 0 0 A) (F0 m 0 ls [])
  rw [← hQ]
  refine lv_aload_n hx hb d_Rd_takeNextWord_0 rfl (lv_at hl 0 rfl) ?_
  refine va_get (D := (dC, dI)) (ci := 3) (v := .int (nI pp)) (C := "PatternText$PatternReader") (T := F_Rd) (N := 9) hx hb hts iw_Rd hown hK hP 0 rfl rfl 2 (by decide) (hts _ kw_66) (fun _ h9 => h9) rfl d_Rd_takeNextWord_1 ?_
  refine lv_istore_n (lv' := [(2, .int (nI pp)), (0, .ref rd), (1, .ref (ad i))]) hx hb d_Rd_takeNextWord_4 rfl hl (by decide) rfl (fun ls hl => ?_)
  refine lv_aload_n hx hb d_Rd_takeNextWord_5 rfl (lv_at hl 1 rfl) ?_
  refine wy_calli (wr := []) (w1 := [(rd, .inr (3, [.ref sa, .int (nI n), .int (nI (cond (rd_sp tx n pp) (pp + 1) pp)), .int nu, .int st, .int mo, .int jo, .int vo, .int (bo_I re)])), (sa, .inl (cI, 120, .inl tx))]) (va_runV (As := []) (rest := []) ⟨hx, hb, hml, hown, hts⟩ (c_Rd_takeSpace l dC dI s.heap.size rd sa cI tx n pp nu st mo jo vo re (by omega) (by omega)) (cwV 0 hts (ga_V kw_254 kw_256 kw_3 kw_35 (ga_in kw_257)) rfl rfl rfl (by decide +kernel) ⟨Nat.le_of_ble_eq_true rfl, Nat.le_of_ble_eq_true rfl⟩) (wy_mreV 0 (hP.sub (ws' := [(rd, .inr (3, [.ref sa, .int (nI n), .int (nI pp), .int nu, .int st, .int mo, .int jo, .int vo, .int (bo_I re)])), (sa, .inl (cI, 120, .inl tx))]) [0, 1] rfl) (hK.sub (tys' := [(cI, .int)]) [0] rfl) hN (hD.sub (ws' := [(rd, .inr (3, [.ref sa, .int (nI n), .int (nI pp), .int nu, .int st, .int mo, .int jo, .int vo, .int (bo_I re)])), (sa, .inl (cI, 120, .inl tx))]) [0, 1] (by decide) rfl) (ci := 3) rfl rfl rfl) rfl rfl hl.1 rfl (lv_room (Nat.le_of_ble_eq_true rfl)) d_Rd_takeNextWord_6 ⟨Nat.le_of_ble_eq_true rfl, Nat.le_of_ble_eq_true rfl⟩) hP hD hS hA [0, 1] [] rfl rfl (by decide) (by decide) (fun H locs hP hD hS => ?_)
  have hP := hP.sub (ws' := [(rd, .inr (3, [.ref sa, .int (nI n), .int (nI (cond (rd_sp tx n pp) (pp + 1) pp)), .int nu, .int st, .int mo, .int jo, .int vo, .int (bo_I re)])), (sa, .inl (cI, 120, .inl tx))]) [0, 1] rfl
  have hD := hD.sub (ws' := [(rd, .inr (3, [.ref sa, .int (nI n), .int (nI (cond (rd_sp tx n pp) (pp + 1) pp)), .int nu, .int st, .int mo, .int jo, .int vo, .int (bo_I re)])), (sa, .inl (cI, 120, .inl tx))]) [0, 1] (by decide) rfl
  rcases hb_6 : rd_sp tx n pp with _ | _
  · rw [hb_6] at hP hD
    have hP : va_P (dC, dI) ga_cl [(rd, .inr (3, [.ref sa, .int (nI n), .int (nI pp), .int nu, .int st, .int mo, .int jo, .int vo, .int (bo_I re)])), (sa, .inl (cI, 120, .inl tx))] H := hP
    have hD : va_D A [(rd, .inr (3, [.ref sa, .int (nI n), .int (nI pp), .int nu, .int st, .int mo, .int jo, .int vo, .int (bo_I re)])), (sa, .inl (cI, 120, .inl tx))] := hD
    refine lv_if_eq (tgt := 22) hx hb d_Rd_takeNextWord_9 (by decide) (fun _ => ?_) (fun z9 => absurd z9 (by decide))
    refine lv_aload_n hx hb d_Rd_takeNextWord_22 rfl (lv_at hl 1 rfl) ?_
    refine lv_iload_n hx hb d_Rd_takeNextWord_23 rfl (lv_at hl 0 rfl) ?_
    refine va_put (D := (dC, dI)) (ci := 3) (v := .int (nI pp)) (ty := .int) (C := "PatternText$PatternReader") (T := F_Rd) (N := 9) hx hb hts iw_Rd t_Rd t_Rd_ok n_Rd hown hK hP hD hS 0 rfl rfl 2 (by decide) (hts _ kw_66) (fun _ h9 => h9) rfl (by decide +kernel) rfl rfl (Nat.le_of_ble_eq_true rfl) d_Rd_takeNextWord_24 (fun H locs hP hD hS => ?_)
    have hP : va_P (dC, dI) ga_cl [(rd, .inr (3, [.ref sa, .int (nI n), .int (nI pp), .int nu, .int st, .int mo, .int jo, .int vo, .int (bo_I re)])), (sa, .inl (cI, 120, .inl tx))] H := hP
    have hD : va_D A [(rd, .inr (3, [.ref sa, .int (nI n), .int (nI pp), .int nu, .int st, .int mo, .int jo, .int vo, .int (bo_I re)])), (sa, .inl (cI, 120, .inl tx))] := hD
    refine lv_iconst (v := 0) hx hb d_Rd_takeNextWord_27 (by decide) ?_
    rw [hQ]
    have z9 : rd_next tx n pp (sv_w i) (sv_len i) = false := by simp [rd_next, *]
    have q9 : (0 : Int32) = bo_I (rd_next tx n pp (sv_w i) (sv_len i)) := by rw [z9]; rfl
    have e9 : ([(rd, .inr (3, [.ref sa, .int (nI n), .int (nI (cond (rd_next tx n pp (sv_w i) (sv_len i)) (pp + 1 + sv_len i) pp)), .int nu, .int st, .int mo, .int jo, .int vo, .int (bo_I re)])), (sa, .inl (cI, 120, .inl tx))] : va_W) = [(rd, .inr (3, [.ref sa, .int (nI n), .int (nI pp), .int nu, .int st, .int mo, .int jo, .int vo, .int (bo_I re)])), (sa, .inl (cI, 120, .inl tx))] := by rw [z9] <;> rfl
    exact W.zret (v := 0) hx hb hr rfl (fun t ht hW => ⟨⟨_, (), rfl, q9, by rw [ht, e9]; exact hP, va_K.moved hW.alike hK, by rw [e9]; exact hD⟩, hS.F ht⟩) hS.2.2 d_Rd_takeNextWord_28
  · rw [hb_6] at hP hD
    have hP : va_P (dC, dI) ga_cl [(rd, .inr (3, [.ref sa, .int (nI n), .int (nI (pp + 1)), .int nu, .int st, .int mo, .int jo, .int vo, .int (bo_I re)])), (sa, .inl (cI, 120, .inl tx))] H := hP
    have hD : va_D A [(rd, .inr (3, [.ref sa, .int (nI n), .int (nI (pp + 1)), .int nu, .int st, .int mo, .int jo, .int vo, .int (bo_I re)])), (sa, .inl (cI, 120, .inl tx))] := hD
    have l_6 := rd_sp_lt hb_6
    refine lv_if_eq (tgt := 22) hx hb d_Rd_takeNextWord_9 (by decide) (fun z9 => absurd z9 (by decide)) (fun _ => ?_)
    refine lv_aload_n hx hb d_Rd_takeNextWord_12 rfl (lv_at hl 1 rfl) ?_
    refine lv_aload_n hx hb d_Rd_takeNextWord_13 rfl (lv_at hl 2 rfl) ?_
    have hF_14 := va_free (wc := [(rd, .inr (3, [.ref sa, .int (nI n), .int (nI (pp + 1)), .int nu, .int st, .int mo, .int jo, .int vo, .int (bo_I re)])), (sa, .inl (cI, 120, .inl tx))]) hD hS hA [0, 1] rfl
    refine wy_calli (wr := []) (w1 := [(rd, .inr (3, [.ref sa, .int (nI n), .int (nI (cond (rd_word tx n (pp + 1) (sv_w i) (sv_len i)) ((pp + 1) + sv_len i) (pp + 1))), .int nu, .int st, .int mo, .int jo, .int vo, .int (bo_I re)])), (sa, .inl (cI, 120, .inl tx))]) (va_runV (As := [.ref (ad i)]) (rest := []) ⟨hx, hb, hml, hown, hts⟩ (c_Rd_takeWord l dC dI H.size ad av rd sa cI tx n (pp + 1) nu st mo jo vo re i (by omega) (by omega) (hi)) (cwV 1 hts (ga_V kw_195 kw_197 kw_1 kw_35 (ga_in kw_198)) rfl rfl rfl (by decide +kernel) ⟨Nat.le_of_ble_eq_true rfl, Nat.le_of_ble_eq_true rfl⟩) (wy_mreVE 0 (hP.sub (ws' := [(rd, .inr (3, [.ref sa, .int (nI n), .int (nI (pp + 1)), .int nu, .int st, .int mo, .int jo, .int vo, .int (bo_I re)])), (sa, .inl (cI, 120, .inl tx))]) [0, 1] rfl) (hK.sub (tys' := [(cI, .int)]) [0] rfl) hN (hD.sub (ws' := [(rd, .inr (3, [.ref sa, .int (nI n), .int (nI (pp + 1)), .int nu, .int st, .int mo, .int jo, .int vo, .int (bo_I re)])), (sa, .inl (cI, 120, .inl tx))]) [0, 1] (by decide) rfl) hE hS hF_14 (ci := 3) rfl rfl rfl) rfl rfl hl.1 rfl (lv_room (Nat.le_of_ble_eq_true rfl)) d_Rd_takeNextWord_14 ⟨Nat.le_of_ble_eq_true rfl, Nat.le_of_ble_eq_true rfl⟩) hP hD hS hA [0, 1] [] rfl rfl (by decide) (by decide) (fun H locs hP hD hS => ?_)
    have hP := hP.sub (ws' := [(rd, .inr (3, [.ref sa, .int (nI n), .int (nI (cond (rd_word tx n (pp + 1) (sv_w i) (sv_len i)) ((pp + 1) + sv_len i) (pp + 1))), .int nu, .int st, .int mo, .int jo, .int vo, .int (bo_I re)])), (sa, .inl (cI, 120, .inl tx))]) [0, 1] rfl
    have hD := hD.sub (ws' := [(rd, .inr (3, [.ref sa, .int (nI n), .int (nI (cond (rd_word tx n (pp + 1) (sv_w i) (sv_len i)) ((pp + 1) + sv_len i) (pp + 1))), .int nu, .int st, .int mo, .int jo, .int vo, .int (bo_I re)])), (sa, .inl (cI, 120, .inl tx))]) [0, 1] (by decide) rfl
    rcases hb_14 : rd_word tx n (pp + 1) (sv_w i) (sv_len i) with _ | _
    · rw [hb_14] at hP hD
      have hP : va_P (dC, dI) ga_cl [(rd, .inr (3, [.ref sa, .int (nI n), .int (nI (pp + 1)), .int nu, .int st, .int mo, .int jo, .int vo, .int (bo_I re)])), (sa, .inl (cI, 120, .inl tx))] H := hP
      have hD : va_D A [(rd, .inr (3, [.ref sa, .int (nI n), .int (nI (pp + 1)), .int nu, .int st, .int mo, .int jo, .int vo, .int (bo_I re)])), (sa, .inl (cI, 120, .inl tx))] := hD
      refine lv_if_eq (tgt := 22) hx hb d_Rd_takeNextWord_17 (by decide) (fun _ => ?_) (fun z9 => absurd z9 (by decide))
      refine lv_aload_n hx hb d_Rd_takeNextWord_22 rfl (lv_at hl 1 rfl) ?_
      refine lv_iload_n hx hb d_Rd_takeNextWord_23 rfl (lv_at hl 0 rfl) ?_
      refine va_put (D := (dC, dI)) (ci := 3) (v := .int (nI pp)) (ty := .int) (C := "PatternText$PatternReader") (T := F_Rd) (N := 9) hx hb hts iw_Rd t_Rd t_Rd_ok n_Rd hown hK hP hD hS 0 rfl rfl 2 (by decide) (hts _ kw_66) (fun _ h9 => h9) rfl (by decide +kernel) rfl rfl (Nat.le_of_ble_eq_true rfl) d_Rd_takeNextWord_24 (fun H locs hP hD hS => ?_)
      have hP : va_P (dC, dI) ga_cl [(rd, .inr (3, [.ref sa, .int (nI n), .int (nI pp), .int nu, .int st, .int mo, .int jo, .int vo, .int (bo_I re)])), (sa, .inl (cI, 120, .inl tx))] H := hP
      have hD : va_D A [(rd, .inr (3, [.ref sa, .int (nI n), .int (nI pp), .int nu, .int st, .int mo, .int jo, .int vo, .int (bo_I re)])), (sa, .inl (cI, 120, .inl tx))] := hD
      refine lv_iconst (v := 0) hx hb d_Rd_takeNextWord_27 (by decide) ?_
      rw [hQ]
      have z9 : rd_next tx n pp (sv_w i) (sv_len i) = false := by simp [rd_next, *]
      have q9 : (0 : Int32) = bo_I (rd_next tx n pp (sv_w i) (sv_len i)) := by rw [z9]; rfl
      have e9 : ([(rd, .inr (3, [.ref sa, .int (nI n), .int (nI (cond (rd_next tx n pp (sv_w i) (sv_len i)) (pp + 1 + sv_len i) pp)), .int nu, .int st, .int mo, .int jo, .int vo, .int (bo_I re)])), (sa, .inl (cI, 120, .inl tx))] : va_W) = [(rd, .inr (3, [.ref sa, .int (nI n), .int (nI pp), .int nu, .int st, .int mo, .int jo, .int vo, .int (bo_I re)])), (sa, .inl (cI, 120, .inl tx))] := by rw [z9] <;> rfl
      exact W.zret (v := 0) hx hb hr rfl (fun t ht hW => ⟨⟨_, (), rfl, q9, by rw [ht, e9]; exact hP, va_K.moved hW.alike hK, by rw [e9]; exact hD⟩, hS.F ht⟩) hS.2.2 d_Rd_takeNextWord_28
    · rw [hb_14] at hP hD
      have hP : va_P (dC, dI) ga_cl [(rd, .inr (3, [.ref sa, .int (nI n), .int (nI ((pp + 1) + sv_len i)), .int nu, .int st, .int mo, .int jo, .int vo, .int (bo_I re)])), (sa, .inl (cI, 120, .inl tx))] H := hP
      have hD : va_D A [(rd, .inr (3, [.ref sa, .int (nI n), .int (nI ((pp + 1) + sv_len i)), .int nu, .int st, .int mo, .int jo, .int vo, .int (bo_I re)])), (sa, .inl (cI, 120, .inl tx))] := hD
      refine lv_if_eq (tgt := 22) hx hb d_Rd_takeNextWord_17 (by decide) (fun z9 => absurd z9 (by decide)) (fun _ => ?_)
      refine lv_iconst (v := 1) hx hb d_Rd_takeNextWord_20 (by decide) ?_
      rw [hQ]
      have z9 : rd_next tx n pp (sv_w i) (sv_len i) = true := by simp [rd_next, *]
      have q9 : (1 : Int32) = bo_I (rd_next tx n pp (sv_w i) (sv_len i)) := by rw [z9]; rfl
      have e9 : ([(rd, .inr (3, [.ref sa, .int (nI n), .int (nI (cond (rd_next tx n pp (sv_w i) (sv_len i)) (pp + 1 + sv_len i) pp)), .int nu, .int st, .int mo, .int jo, .int vo, .int (bo_I re)])), (sa, .inl (cI, 120, .inl tx))] : va_W) = [(rd, .inr (3, [.ref sa, .int (nI n), .int (nI ((pp + 1) + sv_len i)), .int nu, .int st, .int mo, .int jo, .int vo, .int (bo_I re)])), (sa, .inl (cI, 120, .inl tx))] := by rw [z9] <;> rfl
      exact W.zret (v := 1) hx hb hr rfl (fun t ht hW => ⟨⟨_, (), rfl, q9, by rw [ht, e9]; exact hP, va_K.moved hW.alike hK, by rw [e9]; exact hD⟩, hS.F ht⟩) hS.2.2 d_Rd_takeNextWord_21
