set_option maxHeartbeats 4000000 in
set_option maxRecDepth 100000 in
theorem law_body {p : Program} {l : Launch} {e : Env} {s : State} {m : MethodId} {below : List Frame} {meth : Method} {c : Code} {b L : Nat} {xs : Nat → Int32} {dC : Nat → ClassId} {dI : Nat → Nat → Nat} {A : Nat → Nat} {K : Nat → ClassId} {ad av : Nat → Nat} {Q : State → Prop} (C : CallFix p m c code 7 s #[Value.ref b] ga_tbl "PatternTextLaw") (hN : ga_N s) (hK : va_K (dC, dI) ga_cl (wz_T K) s) (hE : sv_E ad av (fun q : Nat => s.heap.size ≤ q) s s.heap) (hX : va_X b L xs s s.heap) (hbl : b < s.heap.size) (hL : L ≤ 4) {x : wz_X} {u : wz_M} {o : Nat → Int64} {H : Heap} {locs : List Loc} {cells slots : Nat} (t : Nat) (ht : 4 * t + 4 ≤ L) (hS : wz_S x u) (hrd : ∀ a b, (xs_read x a b).1 = (ms_read u).1) (hyr : ∀ i1 i2 i3, (xs_yearly x i1 i2 i3).1 = 0) (hW : wz_W dC dI (fun q : Nat => s.heap.size ≤ q) A K s x u o H locs) (hf : cells + 2 ≤ room_1.cells ∧ slots + 127 ≤ room_1.slots) {ls : Array Slot} (hl : lv_has ls 7 [(0, .ref b), (1, .ref (A 0)), (2, .ref (A 16)), (3, .ref (A 33)), (4, .int (nI (4 * t)))])
    (kk : ∀ (x' : wz_X) (u' : wz_M) (o' : Nat → Int64) (H1 : Heap) (locs1 : List Loc) (ls' : Array Slot), wz_S x' u' → wz_W dC dI (fun q : Nat => s.heap.size ≤ q) A K s x' u' o' H1 locs1 → lv_has ls' 7 [(0, .ref b), (1, .ref (A 0)), (2, .ref (A 16)), (3, .ref (A 33)), (4, .int (nI (4 * t)))] → W p l e room_1 s m #[Value.ref b] below meth c H1 locs1 (cells + 2) (slots + 127) Q (F0 m 596 ls' [])) : W p l e room_1 s m #[Value.ref b] below meth c H locs cells slots Q (F0 m 32 ls []) := by
  have hA : ∀ q : Nat, s.heap.size ≤ q → (fun q : Nat => s.heap.size ≤ q) q := fun _ h => h
  have hbA : ¬ (fun q : Nat => s.heap.size ≤ q) b := Nat.not_le.mpr hbl
  obtain ⟨hx, hb, hml, hown, hts⟩ := id C
  have hf0 : cells ≤ room_1.cells ∧ slots ≤ room_1.slots := ⟨Nat.le_trans (Nat.le_add_right _ _) hf.1, Nat.le_trans (Nat.le_add_right _ _) hf.2⟩
  refine lv_aload_n hx hb d_law_32 rfl (lv_at hl 0 rfl) ?_
  refine lv_iload hx hb d_law_33 (lv_at hl 4 rfl) ?_
  refine va_sld hx hb hX hbl hbA hW.2.2 (vp_in_nI (by omega) (by omega)) d_law_35 ?_
  refine wy_cvi (y := xs (4 * t)) (by rw [nI_clamp (by omega)]) ?_
  refine lv_bipush (v := 15) hx hb d_law_36 (by decide) ?_
  refine lv_iand hx hb d_law_38 ?_
  rcases sw_0_13 ((xs (4 * t)) &&& 15) with c_39 | c_39 | c_39 | c_39 | c_39 | c_39 | c_39 | c_39 | c_39 | c_39 | c_39 | c_39 | c_39 | c_39 | c_39
  · refine lv_tableOut (tgt := 596) hx hb d_law_39 c_39 (by decide) ?_
    exact W.widen (k := cells + 2) (n := slots + 127) (by omega) (by omega) (kk _ _ _ _ _ _ (hS) hW (lv_sub hl [0, 1, 2, 3, 4] rfl))
  · refine lv_tableIn (tgt := 108) (off := 69) hx hb d_law_39 (by rw [c_39]; decide) (by rw [c_39]; decide) (by rw [c_39]; rfl) (by decide) ?_
    refine lv_aload_n hx hb d_law_108 rfl (lv_at hl 1 rfl) ?_
    refine lv_aload_n hx hb d_law_109 rfl (lv_at hl 0 rfl) ?_
    refine lv_iload hx hb d_law_110 (lv_at hl 4 rfl) ?_
    refine lv_iconst (v := 1) hx hb d_law_112 (by decide) ?_
    refine wy_iadd hx hb (4 * t) 1 d_law_113 ?_
    refine va_sld hx hb hX hbl hbA hW.2.2 (vp_in_nI (by omega) (by omega)) d_law_114 ?_
    refine wy_cvi (y := xs (4 * t + 1)) (by rw [nI_clamp (by omega)]) ?_
    refine X_sign C hN hK hA (S_ok hS) (xs (4 * t + 1)) hW kw_174 hl.1 (Nat.le_of_ble_eq_true rfl) d_law_115 hf0 (fun H locs hW => ?_)
    refine lv_aload_n hx hb d_law_118 rfl (lv_at hl 2 rfl) ?_
    refine lv_aload_n hx hb d_law_119 rfl (lv_at hl 0 rfl) ?_
    refine lv_iload hx hb d_law_120 (lv_at hl 4 rfl) ?_
    refine lv_iconst (v := 1) hx hb d_law_122 (by decide) ?_
    refine wy_iadd hx hb (4 * t) 1 d_law_123 ?_
    refine va_sld hx hb hX hbl hbA hW.2.2 (vp_in_nI (by omega) (by omega)) d_law_124 ?_
    refine wy_cvi (y := xs (4 * t + 1)) (by rw [nI_clamp (by omega)]) ?_
    refine M_sign C hN hK hA (S_mok hS) (xs (4 * t + 1)) hW kw_638 hl.1 (Nat.le_of_ble_eq_true rfl) d_law_125 hf0 (fun H locs hW => ?_)
    refine lv_goto (tgt := 596) hx hb d_law_128 (by decide) ?_
    exact W.widen (k := cells + 2) (n := slots + 127) (by omega) (by omega) (kk _ _ _ _ _ _ (s_sign hS (xs (4 * t + 1))) hW (lv_sub hl [0, 1, 2, 3, 4] rfl))
  · refine lv_tableIn (tgt := 131) (off := 92) hx hb d_law_39 (by rw [c_39]; decide) (by rw [c_39]; decide) (by rw [c_39]; rfl) (by decide) ?_
    refine lv_aload_n hx hb d_law_131 rfl (lv_at hl 1 rfl) ?_
    refine X_read C hN hK hA hE (S_ok hS) hW kw_182 hl.1 (Nat.le_of_ble_eq_true rfl) d_law_132 hf (fun a9 b9 H locs hW => ?_)
    refine lv_aload_n hx hb d_law_135 rfl (lv_at hl 2 rfl) ?_
    refine M_read C hN hK hA (S_mok hS) hW kw_642 hl.1 (Nat.le_of_ble_eq_true rfl) d_law_136 hf (fun H locs hW => ?_)
    refine lv_icmp_eq (tgt := 596) hx hb d_law_139 (by decide) (fun _ => ?_) (fun z9 => absurd (hrd a9 b9) z9)
    exact kk _ _ _ _ _ _ (s_read hS a9 b9) hW (lv_sub hl [0, 1, 2, 3, 4] rfl)
  · refine lv_tableIn (tgt := 144) (off := 105) hx hb d_law_39 (by rw [c_39]; decide) (by rw [c_39]; decide) (by rw [c_39]; rfl) (by decide) ?_
    refine lv_aload_n hx hb d_law_144 rfl (lv_at hl 1 rfl) ?_
    refine lv_aload_n hx hb d_law_145 rfl (lv_at hl 0 rfl) ?_
    refine lv_iload hx hb d_law_146 (lv_at hl 4 rfl) ?_
    refine lv_iconst (v := 1) hx hb d_law_148 (by decide) ?_
    refine wy_iadd hx hb (4 * t) 1 d_law_149 ?_
    refine va_sld hx hb hX hbl hbA hW.2.2 (vp_in_nI (by omega) (by omega)) d_law_150 ?_
    refine wy_cvi (y := xs (4 * t + 1)) (by rw [nI_clamp (by omega)]) ?_
    refine lv_aload_n hx hb d_law_151 rfl (lv_at hl 0 rfl) ?_
    refine lv_iload hx hb d_law_152 (lv_at hl 4 rfl) ?_
    refine lv_iconst (v := 2) hx hb d_law_154 (by decide) ?_
    refine wy_iadd hx hb (4 * t) 2 d_law_155 ?_
    refine va_sld hx hb hX hbl hbA hW.2.2 (vp_in_nI (by omega) (by omega)) d_law_156 ?_
    refine wy_cvi (y := xs (4 * t + 2)) (by rw [nI_clamp (by omega)]) ?_
    refine lv_aload_n hx hb d_law_157 rfl (lv_at hl 0 rfl) ?_
    refine lv_iload hx hb d_law_158 (lv_at hl 4 rfl) ?_
    refine lv_iconst (v := 3) hx hb d_law_160 (by decide) ?_
    refine wy_iadd hx hb (4 * t) 3 d_law_161 ?_
    refine va_sld hx hb hX hbl hbA hW.2.2 (vp_in_nI (by omega) (by omega)) d_law_162 ?_
    refine wy_cvi (y := xs (4 * t + 3)) (by rw [nI_clamp (by omega)]) ?_
    refine X_foretell C hN hK hA (S_ok hS) (xs (4 * t + 1)) (xs (4 * t + 2)) (xs (4 * t + 3)) hW kw_342 hl.1 (Nat.le_of_ble_eq_true rfl) d_law_163 hf0 (fun H locs hW => ?_)
    refine lv_aload_n hx hb d_law_166 rfl (lv_at hl 2 rfl) ?_
    refine lv_aload_n hx hb d_law_167 rfl (lv_at hl 0 rfl) ?_
    refine lv_iload hx hb d_law_168 (lv_at hl 4 rfl) ?_
    refine lv_iconst (v := 1) hx hb d_law_170 (by decide) ?_
    refine wy_iadd hx hb (4 * t) 1 d_law_171 ?_
    refine va_sld hx hb hX hbl hbA hW.2.2 (vp_in_nI (by omega) (by omega)) d_law_172 ?_
    refine wy_cvi (y := xs (4 * t + 1)) (by rw [nI_clamp (by omega)]) ?_
    refine lv_aload_n hx hb d_law_173 rfl (lv_at hl 0 rfl) ?_
    refine lv_iload hx hb d_law_174 (lv_at hl 4 rfl) ?_
    refine lv_iconst (v := 2) hx hb d_law_176 (by decide) ?_
    refine wy_iadd hx hb (4 * t) 2 d_law_177 ?_
    refine va_sld hx hb hX hbl hbA hW.2.2 (vp_in_nI (by omega) (by omega)) d_law_178 ?_
    refine wy_cvi (y := xs (4 * t + 2)) (by rw [nI_clamp (by omega)]) ?_
    refine lv_aload_n hx hb d_law_179 rfl (lv_at hl 0 rfl) ?_
    refine lv_iload hx hb d_law_180 (lv_at hl 4 rfl) ?_
    refine lv_iconst (v := 3) hx hb d_law_182 (by decide) ?_
    refine wy_iadd hx hb (4 * t) 3 d_law_183 ?_
    refine va_sld hx hb hX hbl hbA hW.2.2 (vp_in_nI (by omega) (by omega)) d_law_184 ?_
    refine wy_cvi (y := xs (4 * t + 3)) (by rw [nI_clamp (by omega)]) ?_
    refine M_foretell C hN hK hA (S_mok hS) (xs (4 * t + 1)) (xs (4 * t + 2)) (xs (4 * t + 3)) hW kw_711 hl.1 (Nat.le_of_ble_eq_true rfl) d_law_185 hf0 (fun H locs hW => ?_)
    refine lv_icmp_eq (tgt := 596) hx hb d_law_188 (by decide) (fun _ => ?_) (fun z9 => absurd ((s_foretell hS (xs (4 * t + 1)) (xs (4 * t + 2)) (xs (4 * t + 3))).1) z9)
    exact W.widen (k := cells + 2) (n := slots + 127) (by omega) (by omega) (kk _ _ _ _ _ _ ((s_foretell hS (xs (4 * t + 1)) (xs (4 * t + 2)) (xs (4 * t + 3))).2) hW (lv_sub hl [0, 1, 2, 3, 4] rfl))
  · refine lv_tableIn (tgt := 193) (off := 154) hx hb d_law_39 (by rw [c_39]; decide) (by rw [c_39]; decide) (by rw [c_39]; rfl) (by decide) ?_
    refine lv_aload_n hx hb d_law_193 rfl (lv_at hl 1 rfl) ?_
    refine lv_aload_n hx hb d_law_194 rfl (lv_at hl 0 rfl) ?_
    refine lv_iload hx hb d_law_195 (lv_at hl 4 rfl) ?_
    refine lv_iconst (v := 1) hx hb d_law_197 (by decide) ?_
    refine wy_iadd hx hb (4 * t) 1 d_law_198 ?_
    refine va_sld hx hb hX hbl hbA hW.2.2 (vp_in_nI (by omega) (by omega)) d_law_199 ?_
    refine wy_cvi (y := xs (4 * t + 1)) (by rw [nI_clamp (by omega)]) ?_
    refine lv_aload_n hx hb d_law_200 rfl (lv_at hl 0 rfl) ?_
    refine lv_iload hx hb d_law_201 (lv_at hl 4 rfl) ?_
    refine lv_iconst (v := 2) hx hb d_law_203 (by decide) ?_
    refine wy_iadd hx hb (4 * t) 2 d_law_204 ?_
    refine va_sld hx hb hX hbl hbA hW.2.2 (vp_in_nI (by omega) (by omega)) d_law_205 ?_
    refine wy_cvi (y := xs (4 * t + 2)) (by rw [nI_clamp (by omega)]) ?_
    refine X_changed C hN hK hA (S_ok hS) (xs (4 * t + 1)) (xs (4 * t + 2)) hW kw_392 hl.1 (Nat.le_of_ble_eq_true rfl) d_law_206 hf0 (fun H locs hW => ?_)
    refine lv_aload_n hx hb d_law_209 rfl (lv_at hl 2 rfl) ?_
    refine lv_aload_n hx hb d_law_210 rfl (lv_at hl 0 rfl) ?_
    refine lv_iload hx hb d_law_211 (lv_at hl 4 rfl) ?_
    refine lv_iconst (v := 1) hx hb d_law_213 (by decide) ?_
    refine wy_iadd hx hb (4 * t) 1 d_law_214 ?_
    refine va_sld hx hb hX hbl hbA hW.2.2 (vp_in_nI (by omega) (by omega)) d_law_215 ?_
    refine wy_cvi (y := xs (4 * t + 1)) (by rw [nI_clamp (by omega)]) ?_
    refine lv_aload_n hx hb d_law_216 rfl (lv_at hl 0 rfl) ?_
    refine lv_iload hx hb d_law_217 (lv_at hl 4 rfl) ?_
    refine lv_iconst (v := 2) hx hb d_law_219 (by decide) ?_
    refine wy_iadd hx hb (4 * t) 2 d_law_220 ?_
    refine va_sld hx hb hX hbl hbA hW.2.2 (vp_in_nI (by omega) (by omega)) d_law_221 ?_
    refine wy_cvi (y := xs (4 * t + 2)) (by rw [nI_clamp (by omega)]) ?_
    refine M_changed C hN hK hA (S_mok hS) (xs (4 * t + 1)) (xs (4 * t + 2)) hW kw_727 hl.1 (Nat.le_of_ble_eq_true rfl) d_law_222 hf0 (fun H locs hW => ?_)
    refine lv_icmp_eq (tgt := 596) hx hb d_law_225 (by decide) (fun _ => ?_) (fun z9 => absurd ((s_changed hS (xs (4 * t + 1)) (xs (4 * t + 2))).1) z9)
    exact W.widen (k := cells + 2) (n := slots + 127) (by omega) (by omega) (kk _ _ _ _ _ _ ((s_changed hS (xs (4 * t + 1)) (xs (4 * t + 2))).2) hW (lv_sub hl [0, 1, 2, 3, 4] rfl))
  · refine lv_tableIn (tgt := 230) (off := 191) hx hb d_law_39 (by rw [c_39]; decide) (by rw [c_39]; decide) (by rw [c_39]; rfl) (by decide) ?_
    refine lv_aload_n hx hb d_law_230 rfl (lv_at hl 1 rfl) ?_
    refine lv_aload_n hx hb d_law_231 rfl (lv_at hl 0 rfl) ?_
    refine lv_iload hx hb d_law_232 (lv_at hl 4 rfl) ?_
    refine lv_iconst (v := 1) hx hb d_law_234 (by decide) ?_
    refine wy_iadd hx hb (4 * t) 1 d_law_235 ?_
    refine va_sld hx hb hX hbl hbA hW.2.2 (vp_in_nI (by omega) (by omega)) d_law_236 ?_
    refine wy_cvi (y := xs (4 * t + 1)) (by rw [nI_clamp (by omega)]) ?_
    refine lv_aload_n hx hb d_law_237 rfl (lv_at hl 0 rfl) ?_
    refine lv_iload hx hb d_law_238 (lv_at hl 4 rfl) ?_
    refine lv_iconst (v := 2) hx hb d_law_240 (by decide) ?_
    refine wy_iadd hx hb (4 * t) 2 d_law_241 ?_
    refine va_sld hx hb hX hbl hbA hW.2.2 (vp_in_nI (by omega) (by omega)) d_law_242 ?_
    refine wy_cvi (y := xs (4 * t + 2)) (by rw [nI_clamp (by omega)]) ?_
    refine X_issue C hN hK hA (S_ok hS) (xs (4 * t + 1)) (xs (4 * t + 2)) hW kw_415 hl.1 (Nat.le_of_ble_eq_true rfl) d_law_243 hf0 (fun H locs hW => ?_)
    refine lv_aload_n hx hb d_law_246 rfl (lv_at hl 2 rfl) ?_
    refine lv_aload_n hx hb d_law_247 rfl (lv_at hl 0 rfl) ?_
    refine lv_iload hx hb d_law_248 (lv_at hl 4 rfl) ?_
    refine lv_iconst (v := 1) hx hb d_law_250 (by decide) ?_
    refine wy_iadd hx hb (4 * t) 1 d_law_251 ?_
    refine va_sld hx hb hX hbl hbA hW.2.2 (vp_in_nI (by omega) (by omega)) d_law_252 ?_
    refine wy_cvi (y := xs (4 * t + 1)) (by rw [nI_clamp (by omega)]) ?_
    refine lv_aload_n hx hb d_law_253 rfl (lv_at hl 0 rfl) ?_
    refine lv_iload hx hb d_law_254 (lv_at hl 4 rfl) ?_
    refine lv_iconst (v := 2) hx hb d_law_256 (by decide) ?_
    refine wy_iadd hx hb (4 * t) 2 d_law_257 ?_
    refine va_sld hx hb hX hbl hbA hW.2.2 (vp_in_nI (by omega) (by omega)) d_law_258 ?_
    refine wy_cvi (y := xs (4 * t + 2)) (by rw [nI_clamp (by omega)]) ?_
    refine M_issue C hN hK hA (S_mok hS) (xs (4 * t + 1)) (xs (4 * t + 2)) hW kw_731 hl.1 (Nat.le_of_ble_eq_true rfl) d_law_259 hf0 (fun H locs hW => ?_)
    refine lv_icmp_eq (tgt := 596) hx hb d_law_262 (by decide) (fun _ => ?_) (fun z9 => absurd ((s_issue hS (xs (4 * t + 1)) (xs (4 * t + 2))).1) z9)
    exact W.widen (k := cells + 2) (n := slots + 127) (by omega) (by omega) (kk _ _ _ _ _ _ ((s_issue hS (xs (4 * t + 1)) (xs (4 * t + 2))).2) hW (lv_sub hl [0, 1, 2, 3, 4] rfl))
  · refine lv_tableIn (tgt := 267) (off := 228) hx hb d_law_39 (by rw [c_39]; decide) (by rw [c_39]; decide) (by rw [c_39]; rfl) (by decide) ?_
    refine lv_aload_n hx hb d_law_267 rfl (lv_at hl 1 rfl) ?_
    refine lv_aload_n hx hb d_law_268 rfl (lv_at hl 0 rfl) ?_
    refine lv_iload hx hb d_law_269 (lv_at hl 4 rfl) ?_
    refine lv_iconst (v := 1) hx hb d_law_271 (by decide) ?_
    refine wy_iadd hx hb (4 * t) 1 d_law_272 ?_
    refine va_sld hx hb hX hbl hbA hW.2.2 (vp_in_nI (by omega) (by omega)) d_law_273 ?_
    refine wy_cvi (y := xs (4 * t + 1)) (by rw [nI_clamp (by omega)]) ?_
    refine X_date C hN hK hA (S_ok hS) (xs (4 * t + 1)) hW kw_421 hl.1 (Nat.le_of_ble_eq_true rfl) d_law_274 hf0 (fun H locs hW => ?_)
    refine lv_aload_n hx hb d_law_277 rfl (lv_at hl 2 rfl) ?_
    refine lv_aload_n hx hb d_law_278 rfl (lv_at hl 0 rfl) ?_
    refine lv_iload hx hb d_law_279 (lv_at hl 4 rfl) ?_
    refine lv_iconst (v := 1) hx hb d_law_281 (by decide) ?_
    refine wy_iadd hx hb (4 * t) 1 d_law_282 ?_
    refine va_sld hx hb hX hbl hbA hW.2.2 (vp_in_nI (by omega) (by omega)) d_law_283 ?_
    refine wy_cvi (y := xs (4 * t + 1)) (by rw [nI_clamp (by omega)]) ?_
    refine M_date C hN hK hA (S_mok hS) (xs (4 * t + 1)) hW kw_743 hl.1 (Nat.le_of_ble_eq_true rfl) d_law_284 hf0 (fun H locs hW => ?_)
    refine W.lcmp hx hb d_law_287 ?_
    refine lv_if_eq (tgt := 596) hx hb d_law_288 (by decide) (fun _ => ?_) (fun z9 => absurd ((lg_cmp_eq _ _).mpr ((s_date hS (xs (4 * t + 1))).1)) z9)
    exact W.widen (k := cells + 2) (n := slots + 127) (by omega) (by omega) (kk _ _ _ _ _ _ ((s_date hS (xs (4 * t + 1))).2) hW (lv_sub hl [0, 1, 2, 3, 4] rfl))
  · refine lv_tableIn (tgt := 293) (off := 254) hx hb d_law_39 (by rw [c_39]; decide) (by rw [c_39]; decide) (by rw [c_39]; rfl) (by decide) ?_
    refine lv_aload_n hx hb d_law_293 rfl (lv_at hl 1 rfl) ?_
    refine lv_aload_n hx hb d_law_294 rfl (lv_at hl 0 rfl) ?_
    refine lv_iload hx hb d_law_295 (lv_at hl 4 rfl) ?_
    refine lv_iconst (v := 1) hx hb d_law_297 (by decide) ?_
    refine wy_iadd hx hb (4 * t) 1 d_law_298 ?_
    refine va_sld hx hb hX hbl hbA hW.2.2 (vp_in_nI (by omega) (by omega)) d_law_299 ?_
    refine wy_cvi (y := xs (4 * t + 1)) (by rw [nI_clamp (by omega)]) ?_
    refine lv_aload_n hx hb d_law_300 rfl (lv_at hl 0 rfl) ?_
    refine lv_iload hx hb d_law_301 (lv_at hl 4 rfl) ?_
    refine lv_iconst (v := 2) hx hb d_law_303 (by decide) ?_
    refine wy_iadd hx hb (4 * t) 2 d_law_304 ?_
    refine va_sld hx hb hX hbl hbA hW.2.2 (vp_in_nI (by omega) (by omega)) d_law_305 ?_
    refine wy_cvi (y := xs (4 * t + 2)) (by rw [nI_clamp (by omega)]) ?_
    refine X_irregular C hN hK hA (S_ok hS) (xs (4 * t + 1)) (xs (4 * t + 2)) hW kw_426 hl.1 (Nat.le_of_ble_eq_true rfl) d_law_306 hf0 (fun H locs hW => ?_)
    refine lv_aload_n hx hb d_law_309 rfl (lv_at hl 2 rfl) ?_
    refine lv_aload_n hx hb d_law_310 rfl (lv_at hl 0 rfl) ?_
    refine lv_iload hx hb d_law_311 (lv_at hl 4 rfl) ?_
    refine lv_iconst (v := 1) hx hb d_law_313 (by decide) ?_
    refine wy_iadd hx hb (4 * t) 1 d_law_314 ?_
    refine va_sld hx hb hX hbl hbA hW.2.2 (vp_in_nI (by omega) (by omega)) d_law_315 ?_
    refine wy_cvi (y := xs (4 * t + 1)) (by rw [nI_clamp (by omega)]) ?_
    refine lv_aload_n hx hb d_law_316 rfl (lv_at hl 0 rfl) ?_
    refine lv_iload hx hb d_law_317 (lv_at hl 4 rfl) ?_
    refine lv_iconst (v := 2) hx hb d_law_319 (by decide) ?_
    refine wy_iadd hx hb (4 * t) 2 d_law_320 ?_
    refine va_sld hx hb hX hbl hbA hW.2.2 (vp_in_nI (by omega) (by omega)) d_law_321 ?_
    refine wy_cvi (y := xs (4 * t + 2)) (by rw [nI_clamp (by omega)]) ?_
    refine M_irregular C hN hK hA (S_mok hS) (xs (4 * t + 1)) (xs (4 * t + 2)) hW kw_747 hl.1 (Nat.le_of_ble_eq_true rfl) d_law_322 hf0 (fun H locs hW => ?_)
    refine lv_icmp_eq (tgt := 596) hx hb d_law_325 (by decide) (fun _ => ?_) (fun z9 => absurd ((s_irregular hS (xs (4 * t + 1)) (xs (4 * t + 2))).1) z9)
    exact W.widen (k := cells + 2) (n := slots + 127) (by omega) (by omega) (kk _ _ _ _ _ _ ((s_irregular hS (xs (4 * t + 1)) (xs (4 * t + 2))).2) hW (lv_sub hl [0, 1, 2, 3, 4] rfl))
  · refine lv_tableIn (tgt := 330) (off := 291) hx hb d_law_39 (by rw [c_39]; decide) (by rw [c_39]; decide) (by rw [c_39]; rfl) (by decide) ?_
    refine lv_aload_n hx hb d_law_330 rfl (lv_at hl 1 rfl) ?_
    refine lv_aload_n hx hb d_law_331 rfl (lv_at hl 0 rfl) ?_
    refine lv_iload hx hb d_law_332 (lv_at hl 4 rfl) ?_
    refine lv_iconst (v := 1) hx hb d_law_334 (by decide) ?_
    refine wy_iadd hx hb (4 * t) 1 d_law_335 ?_
    refine va_sld hx hb hX hbl hbA hW.2.2 (vp_in_nI (by omega) (by omega)) d_law_336 ?_
    refine wy_cvi (y := xs (4 * t + 1)) (by rw [nI_clamp (by omega)]) ?_
    refine X_holiday C hN hK hA (S_ok hS) (xs (4 * t + 1)) hW kw_430 hl.1 (Nat.le_of_ble_eq_true rfl) d_law_337 hf0 (fun H locs hW => ?_)
    refine lv_aload_n hx hb d_law_340 rfl (lv_at hl 2 rfl) ?_
    refine lv_aload_n hx hb d_law_341 rfl (lv_at hl 0 rfl) ?_
    refine lv_iload hx hb d_law_342 (lv_at hl 4 rfl) ?_
    refine lv_iconst (v := 1) hx hb d_law_344 (by decide) ?_
    refine wy_iadd hx hb (4 * t) 1 d_law_345 ?_
    refine va_sld hx hb hX hbl hbA hW.2.2 (vp_in_nI (by omega) (by omega)) d_law_346 ?_
    refine wy_cvi (y := xs (4 * t + 1)) (by rw [nI_clamp (by omega)]) ?_
    refine M_holiday C hN hK hA (S_mok hS) (xs (4 * t + 1)) hW kw_699 hl.1 (Nat.le_of_ble_eq_true rfl) d_law_347 hf0 (fun H locs hW => ?_)
    refine lv_icmp_eq (tgt := 596) hx hb d_law_350 (by decide) (fun _ => ?_) (fun z9 => absurd ((s_holiday hS (xs (4 * t + 1))).1) z9)
    exact W.widen (k := cells + 2) (n := slots + 127) (by omega) (by omega) (kk _ _ _ _ _ _ ((s_holiday hS (xs (4 * t + 1))).2) hW (lv_sub hl [0, 1, 2, 3, 4] rfl))
  · refine lv_tableIn (tgt := 355) (off := 316) hx hb d_law_39 (by rw [c_39]; decide) (by rw [c_39]; decide) (by rw [c_39]; rfl) (by decide) ?_
    refine lv_aload_n hx hb d_law_355 rfl (lv_at hl 1 rfl) ?_
    refine lv_aload_n hx hb d_law_356 rfl (lv_at hl 0 rfl) ?_
    refine lv_iload hx hb d_law_357 (lv_at hl 4 rfl) ?_
    refine lv_iconst (v := 1) hx hb d_law_359 (by decide) ?_
    refine wy_iadd hx hb (4 * t) 1 d_law_360 ?_
    refine va_sld hx hb hX hbl hbA hW.2.2 (vp_in_nI (by omega) (by omega)) d_law_361 ?_
    refine wy_cvi (y := xs (4 * t + 1)) (by rw [nI_clamp (by omega)]) ?_
    refine lv_aload_n hx hb d_law_362 rfl (lv_at hl 0 rfl) ?_
    refine lv_iload hx hb d_law_363 (lv_at hl 4 rfl) ?_
    refine lv_iconst (v := 2) hx hb d_law_365 (by decide) ?_
    refine wy_iadd hx hb (4 * t) 2 d_law_366 ?_
    refine va_sld hx hb hX hbl hbA hW.2.2 (vp_in_nI (by omega) (by omega)) d_law_367 ?_
    refine wy_cvi (y := xs (4 * t + 2)) (by rw [nI_clamp (by omega)]) ?_
    refine X_came C hN hK hA (S_ok hS) (xs (4 * t + 1)) (xs (4 * t + 2)) hW kw_439 hl.1 (Nat.le_of_ble_eq_true rfl) d_law_368 hf0 (fun H locs hW => ?_)
    refine lv_aload_n hx hb d_law_371 rfl (lv_at hl 2 rfl) ?_
    refine lv_aload_n hx hb d_law_372 rfl (lv_at hl 0 rfl) ?_
    refine lv_iload hx hb d_law_373 (lv_at hl 4 rfl) ?_
    refine lv_iconst (v := 1) hx hb d_law_375 (by decide) ?_
    refine wy_iadd hx hb (4 * t) 1 d_law_376 ?_
    refine va_sld hx hb hX hbl hbA hW.2.2 (vp_in_nI (by omega) (by omega)) d_law_377 ?_
    refine wy_cvi (y := xs (4 * t + 1)) (by rw [nI_clamp (by omega)]) ?_
    refine lv_aload_n hx hb d_law_378 rfl (lv_at hl 0 rfl) ?_
    refine lv_iload hx hb d_law_379 (lv_at hl 4 rfl) ?_
    refine lv_iconst (v := 2) hx hb d_law_381 (by decide) ?_
    refine wy_iadd hx hb (4 * t) 2 d_law_382 ?_
    refine va_sld hx hb hX hbl hbA hW.2.2 (vp_in_nI (by omega) (by omega)) d_law_383 ?_
    refine wy_cvi (y := xs (4 * t + 2)) (by rw [nI_clamp (by omega)]) ?_
    refine M_came C hN hK hA (S_mok hS) (xs (4 * t + 1)) (xs (4 * t + 2)) hW kw_751 hl.1 (Nat.le_of_ble_eq_true rfl) d_law_384 hf0 (fun H locs hW => ?_)
    refine lv_icmp_eq (tgt := 596) hx hb d_law_387 (by decide) (fun _ => ?_) (fun z9 => absurd ((s_came hS (xs (4 * t + 1)) (xs (4 * t + 2))).1) z9)
    exact W.widen (k := cells + 2) (n := slots + 127) (by omega) (by omega) (kk _ _ _ _ _ _ ((s_came hS (xs (4 * t + 1)) (xs (4 * t + 2))).2) hW (lv_sub hl [0, 1, 2, 3, 4] rfl))
  · refine lv_tableIn (tgt := 392) (off := 353) hx hb d_law_39 (by rw [c_39]; decide) (by rw [c_39]; decide) (by rw [c_39]; rfl) (by decide) ?_
    refine lv_aload_n hx hb d_law_392 rfl (lv_at hl 1 rfl) ?_
    refine lv_aload_n hx hb d_law_393 rfl (lv_at hl 0 rfl) ?_
    refine lv_iload hx hb d_law_394 (lv_at hl 4 rfl) ?_
    refine lv_iconst (v := 1) hx hb d_law_396 (by decide) ?_
    refine wy_iadd hx hb (4 * t) 1 d_law_397 ?_
    refine va_sld hx hb hX hbl hbA hW.2.2 (vp_in_nI (by omega) (by omega)) d_law_398 ?_
    refine wy_cvi (y := xs (4 * t + 1)) (by rw [nI_clamp (by omega)]) ?_
    refine lv_aload_n hx hb d_law_399 rfl (lv_at hl 0 rfl) ?_
    refine lv_iload hx hb d_law_400 (lv_at hl 4 rfl) ?_
    refine lv_iconst (v := 2) hx hb d_law_402 (by decide) ?_
    refine wy_iadd hx hb (4 * t) 2 d_law_403 ?_
    refine va_sld hx hb hX hbl hbA hW.2.2 (vp_in_nI (by omega) (by omega)) d_law_404 ?_
    refine wy_cvi (y := xs (4 * t + 2)) (by rw [nI_clamp (by omega)]) ?_
    refine X_late C hN hK hA (S_ok hS) (xs (4 * t + 1)) (xs (4 * t + 2)) hW kw_443 hl.1 (Nat.le_of_ble_eq_true rfl) d_law_405 hf0 (fun H locs hW => ?_)
    refine lv_aload_n hx hb d_law_408 rfl (lv_at hl 2 rfl) ?_
    refine lv_aload_n hx hb d_law_409 rfl (lv_at hl 0 rfl) ?_
    refine lv_iload hx hb d_law_410 (lv_at hl 4 rfl) ?_
    refine lv_iconst (v := 1) hx hb d_law_412 (by decide) ?_
    refine wy_iadd hx hb (4 * t) 1 d_law_413 ?_
    refine va_sld hx hb hX hbl hbA hW.2.2 (vp_in_nI (by omega) (by omega)) d_law_414 ?_
    refine wy_cvi (y := xs (4 * t + 1)) (by rw [nI_clamp (by omega)]) ?_
    refine lv_aload_n hx hb d_law_415 rfl (lv_at hl 0 rfl) ?_
    refine lv_iload hx hb d_law_416 (lv_at hl 4 rfl) ?_
    refine lv_iconst (v := 2) hx hb d_law_418 (by decide) ?_
    refine wy_iadd hx hb (4 * t) 2 d_law_419 ?_
    refine va_sld hx hb hX hbl hbA hW.2.2 (vp_in_nI (by omega) (by omega)) d_law_420 ?_
    refine wy_cvi (y := xs (4 * t + 2)) (by rw [nI_clamp (by omega)]) ?_
    refine M_late C hN hK hA (S_mok hS) (xs (4 * t + 1)) (xs (4 * t + 2)) hW kw_755 hl.1 (Nat.le_of_ble_eq_true rfl) d_law_421 hf0 (fun H locs hW => ?_)
    refine lv_icmp_eq (tgt := 596) hx hb d_law_424 (by decide) (fun _ => ?_) (fun z9 => absurd ((s_late hS (xs (4 * t + 1)) (xs (4 * t + 2))).1) z9)
    exact W.widen (k := cells + 2) (n := slots + 127) (by omega) (by omega) (kk _ _ _ _ _ _ ((s_late hS (xs (4 * t + 1)) (xs (4 * t + 2))).2) hW (lv_sub hl [0, 1, 2, 3, 4] rfl))
  · refine lv_tableIn (tgt := 429) (off := 390) hx hb d_law_39 (by rw [c_39]; decide) (by rw [c_39]; decide) (by rw [c_39]; rfl) (by decide) ?_
    refine lv_aload_n hx hb d_law_429 rfl (lv_at hl 1 rfl) ?_
    refine lv_aload_n hx hb d_law_430 rfl (lv_at hl 0 rfl) ?_
    refine lv_iload hx hb d_law_431 (lv_at hl 4 rfl) ?_
    refine lv_iconst (v := 1) hx hb d_law_433 (by decide) ?_
    refine wy_iadd hx hb (4 * t) 1 d_law_434 ?_
    refine va_sld hx hb hX hbl hbA hW.2.2 (vp_in_nI (by omega) (by omega)) d_law_435 ?_
    refine wy_cvi (y := xs (4 * t + 1)) (by rw [nI_clamp (by omega)]) ?_
    refine lv_aload_n hx hb d_law_436 rfl (lv_at hl 0 rfl) ?_
    refine lv_iload hx hb d_law_437 (lv_at hl 4 rfl) ?_
    refine lv_iconst (v := 2) hx hb d_law_439 (by decide) ?_
    refine wy_iadd hx hb (4 * t) 2 d_law_440 ?_
    refine va_sld hx hb hX hbl hbA hW.2.2 (vp_in_nI (by omega) (by omega)) d_law_441 ?_
    refine wy_cvi (y := xs (4 * t + 2)) (by rw [nI_clamp (by omega)]) ?_
    refine X_claim C hN hK hA (S_ok hS) (xs (4 * t + 1)) (xs (4 * t + 2)) hW kw_448 hl.1 (Nat.le_of_ble_eq_true rfl) d_law_442 hf0 (fun H locs hW => ?_)
    refine lv_aload_n hx hb d_law_445 rfl (lv_at hl 2 rfl) ?_
    refine lv_aload_n hx hb d_law_446 rfl (lv_at hl 0 rfl) ?_
    refine lv_iload hx hb d_law_447 (lv_at hl 4 rfl) ?_
    refine lv_iconst (v := 1) hx hb d_law_449 (by decide) ?_
    refine wy_iadd hx hb (4 * t) 1 d_law_450 ?_
    refine va_sld hx hb hX hbl hbA hW.2.2 (vp_in_nI (by omega) (by omega)) d_law_451 ?_
    refine wy_cvi (y := xs (4 * t + 1)) (by rw [nI_clamp (by omega)]) ?_
    refine lv_aload_n hx hb d_law_452 rfl (lv_at hl 0 rfl) ?_
    refine lv_iload hx hb d_law_453 (lv_at hl 4 rfl) ?_
    refine lv_iconst (v := 2) hx hb d_law_455 (by decide) ?_
    refine wy_iadd hx hb (4 * t) 2 d_law_456 ?_
    refine va_sld hx hb hX hbl hbA hW.2.2 (vp_in_nI (by omega) (by omega)) d_law_457 ?_
    refine wy_cvi (y := xs (4 * t + 2)) (by rw [nI_clamp (by omega)]) ?_
    refine M_claim C hN hK hA (S_mok hS) (xs (4 * t + 1)) (xs (4 * t + 2)) hW kw_763 hl.1 (Nat.le_of_ble_eq_true rfl) d_law_458 hf0 (fun H locs hW => ?_)
    refine lv_icmp_eq (tgt := 596) hx hb d_law_461 (by decide) (fun _ => ?_) (fun z9 => absurd ((s_claim hS (xs (4 * t + 1)) (xs (4 * t + 2))).1) z9)
    exact W.widen (k := cells + 2) (n := slots + 127) (by omega) (by omega) (kk _ _ _ _ _ _ ((s_claim hS (xs (4 * t + 1)) (xs (4 * t + 2))).2) hW (lv_sub hl [0, 1, 2, 3, 4] rfl))
  · refine lv_tableIn (tgt := 466) (off := 427) hx hb d_law_39 (by rw [c_39]; decide) (by rw [c_39]; decide) (by rw [c_39]; rfl) (by decide) ?_
    refine lv_aload_n hx hb d_law_466 rfl (lv_at hl 1 rfl) ?_
    refine lv_aload_n hx hb d_law_467 rfl (lv_at hl 0 rfl) ?_
    refine lv_iload hx hb d_law_468 (lv_at hl 4 rfl) ?_
    refine lv_iconst (v := 1) hx hb d_law_470 (by decide) ?_
    refine wy_iadd hx hb (4 * t) 1 d_law_471 ?_
    refine va_sld hx hb hX hbl hbA hW.2.2 (vp_in_nI (by omega) (by omega)) d_law_472 ?_
    refine wy_cvi (y := xs (4 * t + 1)) (by rw [nI_clamp (by omega)]) ?_
    refine X_print C hN hK hA (S_ok hS) (xs (4 * t + 1)) hW kw_468 hl.1 (Nat.le_of_ble_eq_true rfl) d_law_473 hf0 (fun H locs hW => ?_)
    refine lv_aload_n hx hb d_law_476 rfl (lv_at hl 2 rfl) ?_
    refine lv_aload_n hx hb d_law_477 rfl (lv_at hl 0 rfl) ?_
    refine lv_iload hx hb d_law_478 (lv_at hl 4 rfl) ?_
    refine lv_iconst (v := 1) hx hb d_law_480 (by decide) ?_
    refine wy_iadd hx hb (4 * t) 1 d_law_481 ?_
    refine va_sld hx hb hX hbl hbA hW.2.2 (vp_in_nI (by omega) (by omega)) d_law_482 ?_
    refine wy_cvi (y := xs (4 * t + 1)) (by rw [nI_clamp (by omega)]) ?_
    refine M_print C hN hK hA (S_mok hS) (xs (4 * t + 1)) hW kw_771 hl.1 (Nat.le_of_ble_eq_true rfl) d_law_483 hf0 (fun H locs hW => ?_)
    refine lv_icmp_eq (tgt := 596) hx hb d_law_486 (by decide) (fun _ => ?_) (fun z9 => absurd ((s_print hS (xs (4 * t + 1))).1) z9)
    exact W.widen (k := cells + 2) (n := slots + 127) (by omega) (by omega) (kk _ _ _ _ _ _ ((s_print hS (xs (4 * t + 1))).2) hW (lv_sub hl [0, 1, 2, 3, 4] rfl))
  · refine lv_tableIn (tgt := 491) (off := 452) hx hb d_law_39 (by rw [c_39]; decide) (by rw [c_39]; decide) (by rw [c_39]; rfl) (by decide) ?_
    refine lv_aload_n hx hb d_law_491 rfl (lv_at hl 1 rfl) ?_
    refine lv_aload_n hx hb d_law_492 rfl (lv_at hl 0 rfl) ?_
    refine lv_iload hx hb d_law_493 (lv_at hl 4 rfl) ?_
    refine lv_iconst (v := 1) hx hb d_law_495 (by decide) ?_
    refine wy_iadd hx hb (4 * t) 1 d_law_496 ?_
    refine va_sld hx hb hX hbl hbA hW.2.2 (vp_in_nI (by omega) (by omega)) d_law_497 ?_
    refine wy_cvi (y := xs (4 * t + 1)) (by rw [nI_clamp (by omega)]) ?_
    refine X_at C hN hK hA (S_ok hS) (xs (4 * t + 1)) hW kw_472 hl.1 (Nat.le_of_ble_eq_true rfl) d_law_498 hf0 (fun H locs hW => ?_)
    refine lv_aload_n hx hb d_law_501 rfl (lv_at hl 2 rfl) ?_
    refine lv_aload_n hx hb d_law_502 rfl (lv_at hl 0 rfl) ?_
    refine lv_iload hx hb d_law_503 (lv_at hl 4 rfl) ?_
    refine lv_iconst (v := 1) hx hb d_law_505 (by decide) ?_
    refine wy_iadd hx hb (4 * t) 1 d_law_506 ?_
    refine va_sld hx hb hX hbl hbA hW.2.2 (vp_in_nI (by omega) (by omega)) d_law_507 ?_
    refine wy_cvi (y := xs (4 * t + 1)) (by rw [nI_clamp (by omega)]) ?_
    refine M_at C hN hK hA (S_mok hS) (xs (4 * t + 1)) hW kw_775 hl.1 (Nat.le_of_ble_eq_true rfl) d_law_508 hf0 (fun H locs hW => ?_)
    refine lv_icmp_eq (tgt := 596) hx hb d_law_511 (by decide) (fun _ => ?_) (fun z9 => absurd ((s_at hS (xs (4 * t + 1))).1) z9)
    exact W.widen (k := cells + 2) (n := slots + 127) (by omega) (by omega) (kk _ _ _ _ _ _ ((s_at hS (xs (4 * t + 1))).2) hW (lv_sub hl [0, 1, 2, 3, 4] rfl))
  · refine lv_tableIn (tgt := 516) (off := 477) hx hb d_law_39 (by rw [c_39]; decide) (by rw [c_39]; decide) (by rw [c_39]; rfl) (by decide) ?_
    refine lv_aload_n hx hb d_law_516 rfl (lv_at hl 1 rfl) ?_
    refine lv_aload_n hx hb d_law_517 rfl (lv_at hl 0 rfl) ?_
    refine lv_iload hx hb d_law_518 (lv_at hl 4 rfl) ?_
    refine lv_iconst (v := 1) hx hb d_law_520 (by decide) ?_
    refine wy_iadd hx hb (4 * t) 1 d_law_521 ?_
    refine va_sld hx hb hX hbl hbA hW.2.2 (vp_in_nI (by omega) (by omega)) d_law_522 ?_
    refine wy_cvi (y := xs (4 * t + 1)) (by rw [nI_clamp (by omega)]) ?_
    refine lv_aload_n hx hb d_law_523 rfl (lv_at hl 0 rfl) ?_
    refine lv_iload hx hb d_law_524 (lv_at hl 4 rfl) ?_
    refine lv_iconst (v := 2) hx hb d_law_526 (by decide) ?_
    refine wy_iadd hx hb (4 * t) 2 d_law_527 ?_
    refine va_sld hx hb hX hbl hbA hW.2.2 (vp_in_nI (by omega) (by omega)) d_law_528 ?_
    refine wy_cvi (y := xs (4 * t + 2)) (by rw [nI_clamp (by omega)]) ?_
    refine lv_aload_n hx hb d_law_529 rfl (lv_at hl 0 rfl) ?_
    refine lv_iload hx hb d_law_530 (lv_at hl 4 rfl) ?_
    refine lv_iconst (v := 3) hx hb d_law_532 (by decide) ?_
    refine wy_iadd hx hb (4 * t) 3 d_law_533 ?_
    refine va_sld hx hb hX hbl hbA hW.2.2 (vp_in_nI (by omega) (by omega)) d_law_534 ?_
    refine wy_cvi (y := xs (4 * t + 3)) (by rw [nI_clamp (by omega)]) ?_
    refine lv_aload_n hx hb d_law_535 rfl (lv_at hl 3 rfl) ?_
    refine X_yearly_q C hN hK hA (S_ok hS) (xs (4 * t + 1)) (xs (4 * t + 2)) (xs (4 * t + 3)) (hyr _ _ _) hW kw_476 hl.1 (Nat.le_of_ble_eq_true rfl) d_law_536 hf0 (fun H locs hW => ?_)
    refine lv_istore (lv' := [(5, .int ((xs_yearly x (xs (4 * t + 1)) (xs (4 * t + 2)) (xs (4 * t + 3))).1)), (0, .ref b), (1, .ref (A 0)), (2, .ref (A 16)), (3, .ref (A 33)), (4, .int (nI (4 * t)))]) hx hb d_law_539 hl (by decide) rfl (fun ls hl => ?_)
    refine lv_aload_n hx hb d_law_541 rfl (lv_at hl 3 rfl) ?_
    refine lv_aload_n hx hb d_law_542 rfl (lv_at hl 1 rfl) ?_
    refine lv_iload hx hb d_law_543 (lv_at hl 5 rfl) ?_
    refine lv_iconst (v := 1) hx hb d_law_545 (by decide) ?_
    refine wy_iadd hx hb (4 * t) 1 d_law_546 ?_
    refine va_sld hx hb hX hbl hbA hW.2.2 (vp_in_nI (by omega) (by omega)) d_law_547 ?_
    refine wy_cvi (y := xs (4 * t + 1)) (by rw [nI_clamp (by omega)]) ?_
    refine lv_aload_n hx hb d_law_548 rfl (lv_at hl 1 rfl) ?_
    refine lv_iload hx hb d_law_549 (lv_at hl 5 rfl) ?_
    refine lv_iconst (v := 2) hx hb d_law_551 (by decide) ?_
    refine wy_iadd hx hb (4 * t) 2 d_law_552 ?_
    refine va_sld hx hb hX hbl hbA hW.2.2 (vp_in_nI (by omega) (by omega)) d_law_553 ?_
    refine wy_cvi (y := xs (4 * t + 2)) (by rw [nI_clamp (by omega)]) ?_
    refine lv_aload_n hx hb d_law_554 rfl (lv_at hl 1 rfl) ?_
    refine lv_iload hx hb d_law_555 (lv_at hl 5 rfl) ?_
    refine lv_iconst (v := 3) hx hb d_law_557 (by decide) ?_
    refine wy_iadd hx hb (4 * t) 3 d_law_558 ?_
    refine va_sld hx hb hX hbl hbA hW.2.2 (vp_in_nI (by omega) (by omega)) d_law_559 ?_
    refine wy_cvi (y := xs (4 * t + 3)) (by rw [nI_clamp (by omega)]) ?_
    refine M_yearly C hN hK hA (S_mok hS) (xs (4 * t + 1)) (xs (4 * t + 2)) (xs (4 * t + 3)) hW kw_779 hl.1 (Nat.le_of_ble_eq_true rfl) d_law_560 hf0 (fun H locs hW => ?_)
    refine lv_istore (lv' := [(6, .int ((ms_yearly u (xs (4 * t + 1)) (xs (4 * t + 2)) (xs (4 * t + 3))).1)), (5, .int ((xs_yearly x (xs (4 * t + 1)) (xs (4 * t + 2)) (xs (4 * t + 3))).1)), (0, .ref b), (1, .ref (A 0)), (2, .ref (A 16)), (3, .ref (A 33)), (4, .int (nI (4 * t)))]) hx hb d_law_563 hl (by decide) rfl (fun ls hl => ?_)
    refine lv_aload_n hx hb d_law_565 rfl (lv_at hl 4 rfl) ?_
    refine M_thrown C hN hK hA hW kw_634 hl.1 (Nat.le_of_ble_eq_true rfl) d_law_566 hf0 (fun H locs hW => ?_)
    refine lv_iload hx hb d_law_569 (lv_at hl 1 rfl) ?_
    refine lv_icmp_eq (tgt := 576) hx hb d_law_571 (by decide) (fun _ => ?_) (fun z9 => absurd ((s_yearly hS (xs (4 * t + 1)) (xs (4 * t + 2)) (xs (4 * t + 3))).1) z9)
    refine lv_iload hx hb d_law_576 (lv_at hl 1 rfl) ?_
    refine lv_if_ne (tgt := 593) hx hb d_law_578 (by decide) (fun _ => ?_) (fun c_578 => ?_)
    · refine lv_goto (tgt := 596) hx hb d_law_593 (by decide) ?_
      exact W.widen (k := cells + 2) (n := slots + 127) (by omega) (by omega) (kk _ _ _ _ _ _ (by rw [ms_thr]; exact (s_yearly hS (xs (4 * t + 1)) (xs (4 * t + 2)) (xs (4 * t + 3))).2.2) hW (lv_sub hl [2, 3, 4, 5, 6] rfl))
    · have c9 : ((xs_yearly x (xs (4 * t + 1)) (xs (4 * t + 2)) (xs (4 * t + 3))).1) = 0 := by first | exact c_578 | exact Classical.not_not.mp c_578
      refine lv_aload_n hx hb d_law_581 rfl (lv_at hl 5 rfl) ?_
      refine lv_iconst (v := 0) hx hb d_law_582 (by decide) ?_
      refine O_load C hK hW d_law_583 ?_
      refine lv_iload hx hb d_law_584 (lv_at hl 0 rfl) ?_
      refine lv_i2l (v := ((ms_yearly u (xs (4 * t + 1)) (xs (4 * t + 2)) (xs (4 * t + 3))).1).toInt64) hx hb d_law_586 rfl ?_
      refine W.lcmp hx hb d_law_587 ?_
      refine lv_if_eq (tgt := 593) hx hb d_law_588 (by decide) (fun _ => ?_) (fun z9 => absurd ((lg_cmp_eq _ _).mpr (by unfold xo_yearly; rw [if_pos c9]; exact congrArg Int32.toInt64 ((s_yearly hS (xs (4 * t + 1)) (xs (4 * t + 2)) (xs (4 * t + 3))).2.1 c9))) z9)
      refine lv_goto (tgt := 596) hx hb d_law_593 (by decide) ?_
      exact W.widen (k := cells + 2) (n := slots + 127) (by omega) (by omega) (kk _ _ _ _ _ _ (by rw [ms_thr]; exact (s_yearly hS (xs (4 * t + 1)) (xs (4 * t + 2)) (xs (4 * t + 3))).2.2) hW (lv_sub hl [2, 3, 4, 5, 6] rfl))
