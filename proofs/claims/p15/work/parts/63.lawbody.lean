set_option maxHeartbeats 4000000 in
set_option maxRecDepth 100000 in
theorem law_body {p : Program} {l : Launch} {e : Env} {s : State} {m : MethodId} {below : List Frame} {meth : Method} {c : Code} {b L : Nat} {xs : Nat → Int32} {dC : Nat → ClassId} {dI : Nat → Nat → Nat} {A : Nat → Nat} {K : Nat → ClassId} {ad av : Nat → Nat} {Q : State → Prop} (C : CallFix p m c code 7 s #[Value.ref b] ga_tbl "PatternTextLaw") (hN : ga_N s) (hK : va_K (dC, dI) ga_cl (wz_T K) s) (hE : sv_E ad av (fun q : Nat => s.heap.size ≤ q) s s.heap) (hX : va_X b L xs s s.heap) (hbl : b < s.heap.size) (hL : L ≤ 2048) {aM : Nat} (hst : l.stackTraces = false) (hE9 : xt_E aM (fun q : Nat => s.heap.size ≤ q) s s.heap) {x : wz_X} {u : wz_M} {o : Nat → Int64} {H : Heap} {locs : List Loc} {cells slots : Nat} (t : Nat) (ht : 4 * t + 4 ≤ L) (hS : wz_S x u) (hW : wz_W dC dI (fun q : Nat => s.heap.size ≤ q) A K s x u o H locs) (hf : cells + 2 ≤ room_1.cells ∧ slots + 127 ≤ room_1.slots) {ls : Array Slot} (hl : lv_has ls 7 [(0, .ref b), (1, .ref (A 0)), (2, .ref (A 16)), (3, .ref (A 33)), (4, .int (nI (4 * t)))])
    (kk : ∀ (x' : wz_X) (u' : wz_M) (o' : Nat → Int64) (H1 : Heap) (locs1 : List Loc) (ls' : Array Slot), wz_S x' u' → wz_W dC dI (fun q : Nat => s.heap.size ≤ q) A K s x' u' o' H1 locs1 → lv_has ls' 7 [(0, .ref b), (1, .ref (A 0)), (2, .ref (A 16)), (3, .ref (A 33)), (4, .int (nI (4 * t)))] → W p l e room_1 s m #[Value.ref b] below meth c H1 locs1 (cells + 2) (slots + 127) Q (F0 m 595 ls' [])) : W p l e room_1 s m #[Value.ref b] below meth c H locs cells slots Q (F0 m 32 ls []) := by
  have hA : ∀ q : Nat, s.heap.size ≤ q → (fun q : Nat => s.heap.size ≤ q) q := fun _ h => h
  have hbA : ¬ (fun q : Nat => s.heap.size ≤ q) b := Nat.not_le.mpr hbl
  obtain ⟨hx, hb, hml, hown, hts⟩ := id C
  have hf0 : cells ≤ room_1.cells ∧ slots ≤ room_1.slots := ⟨Nat.le_trans (Nat.le_add_right _ _) hf.1, Nat.le_trans (Nat.le_add_right _ _) hf.2⟩
  have hf1 : cells + 1 ≤ room_1.cells ∧ slots + 6 ≤ room_1.slots := ⟨Nat.le_trans (by omega) hf.1, Nat.le_trans (by omega) hf.2⟩
  refine lv_aload_n hx hb d_law_32 rfl (lv_at hl 0 rfl) ?_
  refine lv_iload hx hb d_law_33 (lv_at hl 4 rfl) ?_
  refine va_sld hx hb hX hbl hbA hW.2.2 (vp_in_nI (by omega) (by omega)) d_law_35 ?_
  refine wy_cvi (y := xs (4 * t)) (by rw [nI_clamp (by omega)]) ?_
  refine lv_bipush (v := 15) hx hb d_law_36 (by decide) ?_
  refine lv_iand hx hb d_law_38 ?_
  rcases sw_0_13 ((xs (4 * t)) &&& 15) with c_39 | c_39 | c_39 | c_39 | c_39 | c_39 | c_39 | c_39 | c_39 | c_39 | c_39 | c_39 | c_39 | c_39 | c_39
  · refine lv_tableOut (tgt := 595) hx hb d_law_39 c_39 (by decide) ?_
    exact W.widen (k := cells + 2) (n := slots + 127) (by omega) (by omega) (kk _ _ _ _ _ _ (hS) hW (lv_sub hl [0, 1, 2, 3, 4] rfl))
  · refine lv_tableIn (tgt := 108) (off := 69) hx hb d_law_39 (by rw [c_39]; decide) (by rw [c_39]; decide) (by rw [c_39]; rfl) (by decide) ?_
    refine lv_aload_n hx hb d_law_108 rfl (lv_at hl 1 rfl) ?_
    refine lv_aload_n hx hb d_law_109 rfl (lv_at hl 0 rfl) ?_
    refine lv_iload hx hb d_law_110 (lv_at hl 4 rfl) ?_
    refine lv_iconst (v := 1) hx hb d_law_112 (by decide) ?_
    refine wy_iadd hx hb (4 * t) 1 d_law_113 ?_
    refine va_sld hx hb hX hbl hbA hW.2.2 (vp_in_nI (by omega) (by omega)) d_law_114 ?_
    refine wy_cvi (y := xs (4 * t + 1)) (by rw [nI_clamp (by omega)]) ?_
    refine X_sign C hN hK hA (S_ok hS) (xs (4 * t + 1)) hW kw_174 hl.1 (Nat.le_of_ble_eq_true rfl) d_law_115 hf0 (fun H locs hW => ?_)
    refine lv_aload_n hx hb d_law_118 rfl (lv_at hl 2 rfl) ?_
    refine lv_aload_n hx hb d_law_119 rfl (lv_at hl 0 rfl) ?_
    refine lv_iload hx hb d_law_120 (lv_at hl 4 rfl) ?_
    refine lv_iconst (v := 1) hx hb d_law_122 (by decide) ?_
    refine wy_iadd hx hb (4 * t) 1 d_law_123 ?_
    refine va_sld hx hb hX hbl hbA hW.2.2 (vp_in_nI (by omega) (by omega)) d_law_124 ?_
    refine wy_cvi (y := xs (4 * t + 1)) (by rw [nI_clamp (by omega)]) ?_
    refine M_sign C hN hK hA (S_mok hS) (xs (4 * t + 1)) hW kw_638 hl.1 (Nat.le_of_ble_eq_true rfl) d_law_125 hf0 (fun H locs hW => ?_)
    refine lv_goto (tgt := 595) hx hb d_law_128 (by decide) ?_
    exact W.widen (k := cells + 2) (n := slots + 127) (by omega) (by omega) (kk _ _ _ _ _ _ (s_sign hS (xs (4 * t + 1))) hW (lv_sub hl [0, 1, 2, 3, 4] rfl))
  · refine lv_tableIn (tgt := 131) (off := 92) hx hb d_law_39 (by rw [c_39]; decide) (by rw [c_39]; decide) (by rw [c_39]; rfl) (by decide) ?_
    refine lv_aload_n hx hb d_law_131 rfl (lv_at hl 1 rfl) ?_
    refine X_read C hN hK hA hE (S_ok hS) hW kw_182 hl.1 (Nat.le_of_ble_eq_true rfl) d_law_132 hf (fun a9 b9 H locs hW => ?_)
    refine lv_pop hx hb d_law_135 rfl ?_
    refine lv_aload_n hx hb d_law_136 rfl (lv_at hl 2 rfl) ?_
    refine M_read C hN hK hA (S_mok hS) hW kw_642 hl.1 (Nat.le_of_ble_eq_true rfl) d_law_137 hf (fun H locs hW => ?_)
    refine lv_pop hx hb d_law_140 rfl ?_
    refine lv_goto (tgt := 595) hx hb d_law_141 (by decide) ?_
    exact kk _ _ _ _ _ _ (s_read hS a9 b9) hW (lv_sub hl [0, 1, 2, 3, 4] rfl)
  · refine lv_tableIn (tgt := 144) (off := 105) hx hb d_law_39 (by rw [c_39]; decide) (by rw [c_39]; decide) (by rw [c_39]; rfl) (by decide) ?_
    refine lv_aload_n hx hb d_law_144 rfl (lv_at hl 1 rfl) ?_
    refine lv_aload_n hx hb d_law_145 rfl (lv_at hl 0 rfl) ?_
    refine lv_iload hx hb d_law_146 (lv_at hl 4 rfl) ?_
    refine lv_iconst (v := 1) hx hb d_law_148 (by decide) ?_
    refine wy_iadd hx hb (4 * t) 1 d_law_149 ?_
    refine va_sld hx hb hX hbl hbA hW.2.2 (vp_in_nI (by omega) (by omega)) d_law_150 ?_
    refine wy_cvi (y := xs (4 * t + 1)) (by rw [nI_clamp (by omega)]) ?_
    refine lv_aload_n hx hb d_law_151 rfl (lv_at hl 0 rfl) ?_
    refine lv_iload hx hb d_law_152 (lv_at hl 4 rfl) ?_
    refine lv_iconst (v := 2) hx hb d_law_154 (by decide) ?_
    refine wy_iadd hx hb (4 * t) 2 d_law_155 ?_
    refine va_sld hx hb hX hbl hbA hW.2.2 (vp_in_nI (by omega) (by omega)) d_law_156 ?_
    refine wy_cvi (y := xs (4 * t + 2)) (by rw [nI_clamp (by omega)]) ?_
    refine lv_aload_n hx hb d_law_157 rfl (lv_at hl 0 rfl) ?_
    refine lv_iload hx hb d_law_158 (lv_at hl 4 rfl) ?_
    refine lv_iconst (v := 3) hx hb d_law_160 (by decide) ?_
    refine wy_iadd hx hb (4 * t) 3 d_law_161 ?_
    refine va_sld hx hb hX hbl hbA hW.2.2 (vp_in_nI (by omega) (by omega)) d_law_162 ?_
    refine wy_cvi (y := xs (4 * t + 3)) (by rw [nI_clamp (by omega)]) ?_
    refine X_foretell C hN hK hA (S_ok hS) (xs (4 * t + 1)) (xs (4 * t + 2)) (xs (4 * t + 3)) hW kw_342 hl.1 (Nat.le_of_ble_eq_true rfl) d_law_163 hf0 (fun H locs hW => ?_)
    refine lv_pop hx hb d_law_166 rfl ?_
    refine lv_aload_n hx hb d_law_167 rfl (lv_at hl 2 rfl) ?_
    refine lv_aload_n hx hb d_law_168 rfl (lv_at hl 0 rfl) ?_
    refine lv_iload hx hb d_law_169 (lv_at hl 4 rfl) ?_
    refine lv_iconst (v := 1) hx hb d_law_171 (by decide) ?_
    refine wy_iadd hx hb (4 * t) 1 d_law_172 ?_
    refine va_sld hx hb hX hbl hbA hW.2.2 (vp_in_nI (by omega) (by omega)) d_law_173 ?_
    refine wy_cvi (y := xs (4 * t + 1)) (by rw [nI_clamp (by omega)]) ?_
    refine lv_aload_n hx hb d_law_174 rfl (lv_at hl 0 rfl) ?_
    refine lv_iload hx hb d_law_175 (lv_at hl 4 rfl) ?_
    refine lv_iconst (v := 2) hx hb d_law_177 (by decide) ?_
    refine wy_iadd hx hb (4 * t) 2 d_law_178 ?_
    refine va_sld hx hb hX hbl hbA hW.2.2 (vp_in_nI (by omega) (by omega)) d_law_179 ?_
    refine wy_cvi (y := xs (4 * t + 2)) (by rw [nI_clamp (by omega)]) ?_
    refine lv_aload_n hx hb d_law_180 rfl (lv_at hl 0 rfl) ?_
    refine lv_iload hx hb d_law_181 (lv_at hl 4 rfl) ?_
    refine lv_iconst (v := 3) hx hb d_law_183 (by decide) ?_
    refine wy_iadd hx hb (4 * t) 3 d_law_184 ?_
    refine va_sld hx hb hX hbl hbA hW.2.2 (vp_in_nI (by omega) (by omega)) d_law_185 ?_
    refine wy_cvi (y := xs (4 * t + 3)) (by rw [nI_clamp (by omega)]) ?_
    refine M_foretell C hN hK hA (S_mok hS) (xs (4 * t + 1)) (xs (4 * t + 2)) (xs (4 * t + 3)) hW kw_711 hl.1 (Nat.le_of_ble_eq_true rfl) d_law_186 hf0 (fun H locs hW => ?_)
    refine lv_pop hx hb d_law_189 rfl ?_
    refine lv_goto (tgt := 595) hx hb d_law_190 (by decide) ?_
    exact W.widen (k := cells + 2) (n := slots + 127) (by omega) (by omega) (kk _ _ _ _ _ _ ((s_foretell hS (xs (4 * t + 1)) (xs (4 * t + 2)) (xs (4 * t + 3))).2) hW (lv_sub hl [0, 1, 2, 3, 4] rfl))
  · refine lv_tableIn (tgt := 193) (off := 154) hx hb d_law_39 (by rw [c_39]; decide) (by rw [c_39]; decide) (by rw [c_39]; rfl) (by decide) ?_
    refine lv_aload_n hx hb d_law_193 rfl (lv_at hl 1 rfl) ?_
    refine lv_aload_n hx hb d_law_194 rfl (lv_at hl 0 rfl) ?_
    refine lv_iload hx hb d_law_195 (lv_at hl 4 rfl) ?_
    refine lv_iconst (v := 1) hx hb d_law_197 (by decide) ?_
    refine wy_iadd hx hb (4 * t) 1 d_law_198 ?_
    refine va_sld hx hb hX hbl hbA hW.2.2 (vp_in_nI (by omega) (by omega)) d_law_199 ?_
    refine wy_cvi (y := xs (4 * t + 1)) (by rw [nI_clamp (by omega)]) ?_
    refine lv_aload_n hx hb d_law_200 rfl (lv_at hl 0 rfl) ?_
    refine lv_iload hx hb d_law_201 (lv_at hl 4 rfl) ?_
    refine lv_iconst (v := 2) hx hb d_law_203 (by decide) ?_
    refine wy_iadd hx hb (4 * t) 2 d_law_204 ?_
    refine va_sld hx hb hX hbl hbA hW.2.2 (vp_in_nI (by omega) (by omega)) d_law_205 ?_
    refine wy_cvi (y := xs (4 * t + 2)) (by rw [nI_clamp (by omega)]) ?_
    refine X_changed C hN hK hA (S_ok hS) (xs (4 * t + 1)) (xs (4 * t + 2)) hW kw_392 hl.1 (Nat.le_of_ble_eq_true rfl) d_law_206 hf0 (fun H locs hW => ?_)
    refine lv_pop hx hb d_law_209 rfl ?_
    refine lv_aload_n hx hb d_law_210 rfl (lv_at hl 2 rfl) ?_
    refine lv_aload_n hx hb d_law_211 rfl (lv_at hl 0 rfl) ?_
    refine lv_iload hx hb d_law_212 (lv_at hl 4 rfl) ?_
    refine lv_iconst (v := 1) hx hb d_law_214 (by decide) ?_
    refine wy_iadd hx hb (4 * t) 1 d_law_215 ?_
    refine va_sld hx hb hX hbl hbA hW.2.2 (vp_in_nI (by omega) (by omega)) d_law_216 ?_
    refine wy_cvi (y := xs (4 * t + 1)) (by rw [nI_clamp (by omega)]) ?_
    refine lv_aload_n hx hb d_law_217 rfl (lv_at hl 0 rfl) ?_
    refine lv_iload hx hb d_law_218 (lv_at hl 4 rfl) ?_
    refine lv_iconst (v := 2) hx hb d_law_220 (by decide) ?_
    refine wy_iadd hx hb (4 * t) 2 d_law_221 ?_
    refine va_sld hx hb hX hbl hbA hW.2.2 (vp_in_nI (by omega) (by omega)) d_law_222 ?_
    refine wy_cvi (y := xs (4 * t + 2)) (by rw [nI_clamp (by omega)]) ?_
    refine M_changed C hN hK hA (S_mok hS) (xs (4 * t + 1)) (xs (4 * t + 2)) hW kw_727 hl.1 (Nat.le_of_ble_eq_true rfl) d_law_223 hf0 (fun H locs hW => ?_)
    refine lv_pop hx hb d_law_226 rfl ?_
    refine lv_goto (tgt := 595) hx hb d_law_227 (by decide) ?_
    exact W.widen (k := cells + 2) (n := slots + 127) (by omega) (by omega) (kk _ _ _ _ _ _ ((s_changed hS (xs (4 * t + 1)) (xs (4 * t + 2))).2) hW (lv_sub hl [0, 1, 2, 3, 4] rfl))
  · refine lv_tableIn (tgt := 230) (off := 191) hx hb d_law_39 (by rw [c_39]; decide) (by rw [c_39]; decide) (by rw [c_39]; rfl) (by decide) ?_
    refine lv_aload_n hx hb d_law_230 rfl (lv_at hl 1 rfl) ?_
    refine lv_aload_n hx hb d_law_231 rfl (lv_at hl 0 rfl) ?_
    refine lv_iload hx hb d_law_232 (lv_at hl 4 rfl) ?_
    refine lv_iconst (v := 1) hx hb d_law_234 (by decide) ?_
    refine wy_iadd hx hb (4 * t) 1 d_law_235 ?_
    refine va_sld hx hb hX hbl hbA hW.2.2 (vp_in_nI (by omega) (by omega)) d_law_236 ?_
    refine wy_cvi (y := xs (4 * t + 1)) (by rw [nI_clamp (by omega)]) ?_
    refine lv_aload_n hx hb d_law_237 rfl (lv_at hl 0 rfl) ?_
    refine lv_iload hx hb d_law_238 (lv_at hl 4 rfl) ?_
    refine lv_iconst (v := 2) hx hb d_law_240 (by decide) ?_
    refine wy_iadd hx hb (4 * t) 2 d_law_241 ?_
    refine va_sld hx hb hX hbl hbA hW.2.2 (vp_in_nI (by omega) (by omega)) d_law_242 ?_
    refine wy_cvi (y := xs (4 * t + 2)) (by rw [nI_clamp (by omega)]) ?_
    refine X_issue C hN hK hA (S_ok hS) (xs (4 * t + 1)) (xs (4 * t + 2)) hW kw_415 hl.1 (Nat.le_of_ble_eq_true rfl) d_law_243 hf0 (fun H locs hW => ?_)
    refine lv_pop hx hb d_law_246 rfl ?_
    refine lv_aload_n hx hb d_law_247 rfl (lv_at hl 2 rfl) ?_
    refine lv_aload_n hx hb d_law_248 rfl (lv_at hl 0 rfl) ?_
    refine lv_iload hx hb d_law_249 (lv_at hl 4 rfl) ?_
    refine lv_iconst (v := 1) hx hb d_law_251 (by decide) ?_
    refine wy_iadd hx hb (4 * t) 1 d_law_252 ?_
    refine va_sld hx hb hX hbl hbA hW.2.2 (vp_in_nI (by omega) (by omega)) d_law_253 ?_
    refine wy_cvi (y := xs (4 * t + 1)) (by rw [nI_clamp (by omega)]) ?_
    refine lv_aload_n hx hb d_law_254 rfl (lv_at hl 0 rfl) ?_
    refine lv_iload hx hb d_law_255 (lv_at hl 4 rfl) ?_
    refine lv_iconst (v := 2) hx hb d_law_257 (by decide) ?_
    refine wy_iadd hx hb (4 * t) 2 d_law_258 ?_
    refine va_sld hx hb hX hbl hbA hW.2.2 (vp_in_nI (by omega) (by omega)) d_law_259 ?_
    refine wy_cvi (y := xs (4 * t + 2)) (by rw [nI_clamp (by omega)]) ?_
    refine M_issue C hN hK hA (S_mok hS) (xs (4 * t + 1)) (xs (4 * t + 2)) hW kw_731 hl.1 (Nat.le_of_ble_eq_true rfl) d_law_260 hf0 (fun H locs hW => ?_)
    refine lv_pop hx hb d_law_263 rfl ?_
    refine lv_goto (tgt := 595) hx hb d_law_264 (by decide) ?_
    exact W.widen (k := cells + 2) (n := slots + 127) (by omega) (by omega) (kk _ _ _ _ _ _ ((s_issue hS (xs (4 * t + 1)) (xs (4 * t + 2))).2) hW (lv_sub hl [0, 1, 2, 3, 4] rfl))
  · refine lv_tableIn (tgt := 267) (off := 228) hx hb d_law_39 (by rw [c_39]; decide) (by rw [c_39]; decide) (by rw [c_39]; rfl) (by decide) ?_
    refine lv_aload_n hx hb d_law_267 rfl (lv_at hl 1 rfl) ?_
    refine lv_aload_n hx hb d_law_268 rfl (lv_at hl 0 rfl) ?_
    refine lv_iload hx hb d_law_269 (lv_at hl 4 rfl) ?_
    refine lv_iconst (v := 1) hx hb d_law_271 (by decide) ?_
    refine wy_iadd hx hb (4 * t) 1 d_law_272 ?_
    refine va_sld hx hb hX hbl hbA hW.2.2 (vp_in_nI (by omega) (by omega)) d_law_273 ?_
    refine wy_cvi (y := xs (4 * t + 1)) (by rw [nI_clamp (by omega)]) ?_
    refine X_date C hN hK hA (S_ok hS) (xs (4 * t + 1)) hW kw_421 hl.1 (Nat.le_of_ble_eq_true rfl) d_law_274 hf0 (fun H locs hW => ?_)
    refine lv_pop2_2 hx hb d_law_277 rfl ?_
    refine lv_aload_n hx hb d_law_278 rfl (lv_at hl 2 rfl) ?_
    refine lv_aload_n hx hb d_law_279 rfl (lv_at hl 0 rfl) ?_
    refine lv_iload hx hb d_law_280 (lv_at hl 4 rfl) ?_
    refine lv_iconst (v := 1) hx hb d_law_282 (by decide) ?_
    refine wy_iadd hx hb (4 * t) 1 d_law_283 ?_
    refine va_sld hx hb hX hbl hbA hW.2.2 (vp_in_nI (by omega) (by omega)) d_law_284 ?_
    refine wy_cvi (y := xs (4 * t + 1)) (by rw [nI_clamp (by omega)]) ?_
    refine M_date C hN hK hA (S_mok hS) (xs (4 * t + 1)) hW kw_743 hl.1 (Nat.le_of_ble_eq_true rfl) d_law_285 hf0 (fun H locs hW => ?_)
    refine lv_pop2_2 hx hb d_law_288 rfl ?_
    refine lv_goto (tgt := 595) hx hb d_law_289 (by decide) ?_
    exact W.widen (k := cells + 2) (n := slots + 127) (by omega) (by omega) (kk _ _ _ _ _ _ ((s_date hS (xs (4 * t + 1))).2) hW (lv_sub hl [0, 1, 2, 3, 4] rfl))
  · refine lv_tableIn (tgt := 292) (off := 253) hx hb d_law_39 (by rw [c_39]; decide) (by rw [c_39]; decide) (by rw [c_39]; rfl) (by decide) ?_
    refine lv_aload_n hx hb d_law_292 rfl (lv_at hl 1 rfl) ?_
    refine lv_aload_n hx hb d_law_293 rfl (lv_at hl 0 rfl) ?_
    refine lv_iload hx hb d_law_294 (lv_at hl 4 rfl) ?_
    refine lv_iconst (v := 1) hx hb d_law_296 (by decide) ?_
    refine wy_iadd hx hb (4 * t) 1 d_law_297 ?_
    refine va_sld hx hb hX hbl hbA hW.2.2 (vp_in_nI (by omega) (by omega)) d_law_298 ?_
    refine wy_cvi (y := xs (4 * t + 1)) (by rw [nI_clamp (by omega)]) ?_
    refine lv_aload_n hx hb d_law_299 rfl (lv_at hl 0 rfl) ?_
    refine lv_iload hx hb d_law_300 (lv_at hl 4 rfl) ?_
    refine lv_iconst (v := 2) hx hb d_law_302 (by decide) ?_
    refine wy_iadd hx hb (4 * t) 2 d_law_303 ?_
    refine va_sld hx hb hX hbl hbA hW.2.2 (vp_in_nI (by omega) (by omega)) d_law_304 ?_
    refine wy_cvi (y := xs (4 * t + 2)) (by rw [nI_clamp (by omega)]) ?_
    refine X_irregular C hN hK hA (S_ok hS) (xs (4 * t + 1)) (xs (4 * t + 2)) hW kw_426 hl.1 (Nat.le_of_ble_eq_true rfl) d_law_305 hf0 (fun H locs hW => ?_)
    refine lv_pop hx hb d_law_308 rfl ?_
    refine lv_aload_n hx hb d_law_309 rfl (lv_at hl 2 rfl) ?_
    refine lv_aload_n hx hb d_law_310 rfl (lv_at hl 0 rfl) ?_
    refine lv_iload hx hb d_law_311 (lv_at hl 4 rfl) ?_
    refine lv_iconst (v := 1) hx hb d_law_313 (by decide) ?_
    refine wy_iadd hx hb (4 * t) 1 d_law_314 ?_
    refine va_sld hx hb hX hbl hbA hW.2.2 (vp_in_nI (by omega) (by omega)) d_law_315 ?_
    refine wy_cvi (y := xs (4 * t + 1)) (by rw [nI_clamp (by omega)]) ?_
    refine lv_aload_n hx hb d_law_316 rfl (lv_at hl 0 rfl) ?_
    refine lv_iload hx hb d_law_317 (lv_at hl 4 rfl) ?_
    refine lv_iconst (v := 2) hx hb d_law_319 (by decide) ?_
    refine wy_iadd hx hb (4 * t) 2 d_law_320 ?_
    refine va_sld hx hb hX hbl hbA hW.2.2 (vp_in_nI (by omega) (by omega)) d_law_321 ?_
    refine wy_cvi (y := xs (4 * t + 2)) (by rw [nI_clamp (by omega)]) ?_
    refine M_irregular C hN hK hA (S_mok hS) (xs (4 * t + 1)) (xs (4 * t + 2)) hW kw_747 hl.1 (Nat.le_of_ble_eq_true rfl) d_law_322 hf0 (fun H locs hW => ?_)
    refine lv_pop hx hb d_law_325 rfl ?_
    refine lv_goto (tgt := 595) hx hb d_law_326 (by decide) ?_
    exact W.widen (k := cells + 2) (n := slots + 127) (by omega) (by omega) (kk _ _ _ _ _ _ ((s_irregular hS (xs (4 * t + 1)) (xs (4 * t + 2))).2) hW (lv_sub hl [0, 1, 2, 3, 4] rfl))
  · refine lv_tableIn (tgt := 329) (off := 290) hx hb d_law_39 (by rw [c_39]; decide) (by rw [c_39]; decide) (by rw [c_39]; rfl) (by decide) ?_
    refine lv_aload_n hx hb d_law_329 rfl (lv_at hl 1 rfl) ?_
    refine lv_aload_n hx hb d_law_330 rfl (lv_at hl 0 rfl) ?_
    refine lv_iload hx hb d_law_331 (lv_at hl 4 rfl) ?_
    refine lv_iconst (v := 1) hx hb d_law_333 (by decide) ?_
    refine wy_iadd hx hb (4 * t) 1 d_law_334 ?_
    refine va_sld hx hb hX hbl hbA hW.2.2 (vp_in_nI (by omega) (by omega)) d_law_335 ?_
    refine wy_cvi (y := xs (4 * t + 1)) (by rw [nI_clamp (by omega)]) ?_
    refine X_holiday C hN hK hA (S_ok hS) (xs (4 * t + 1)) hW kw_430 hl.1 (Nat.le_of_ble_eq_true rfl) d_law_336 hf0 (fun H locs hW => ?_)
    refine lv_pop hx hb d_law_339 rfl ?_
    refine lv_aload_n hx hb d_law_340 rfl (lv_at hl 2 rfl) ?_
    refine lv_aload_n hx hb d_law_341 rfl (lv_at hl 0 rfl) ?_
    refine lv_iload hx hb d_law_342 (lv_at hl 4 rfl) ?_
    refine lv_iconst (v := 1) hx hb d_law_344 (by decide) ?_
    refine wy_iadd hx hb (4 * t) 1 d_law_345 ?_
    refine va_sld hx hb hX hbl hbA hW.2.2 (vp_in_nI (by omega) (by omega)) d_law_346 ?_
    refine wy_cvi (y := xs (4 * t + 1)) (by rw [nI_clamp (by omega)]) ?_
    refine M_holiday C hN hK hA (S_mok hS) (xs (4 * t + 1)) hW kw_699 hl.1 (Nat.le_of_ble_eq_true rfl) d_law_347 hf0 (fun H locs hW => ?_)
    refine lv_pop hx hb d_law_350 rfl ?_
    refine lv_goto (tgt := 595) hx hb d_law_351 (by decide) ?_
    exact W.widen (k := cells + 2) (n := slots + 127) (by omega) (by omega) (kk _ _ _ _ _ _ ((s_holiday hS (xs (4 * t + 1))).2) hW (lv_sub hl [0, 1, 2, 3, 4] rfl))
  · refine lv_tableIn (tgt := 354) (off := 315) hx hb d_law_39 (by rw [c_39]; decide) (by rw [c_39]; decide) (by rw [c_39]; rfl) (by decide) ?_
    refine lv_aload_n hx hb d_law_354 rfl (lv_at hl 1 rfl) ?_
    refine lv_aload_n hx hb d_law_355 rfl (lv_at hl 0 rfl) ?_
    refine lv_iload hx hb d_law_356 (lv_at hl 4 rfl) ?_
    refine lv_iconst (v := 1) hx hb d_law_358 (by decide) ?_
    refine wy_iadd hx hb (4 * t) 1 d_law_359 ?_
    refine va_sld hx hb hX hbl hbA hW.2.2 (vp_in_nI (by omega) (by omega)) d_law_360 ?_
    refine wy_cvi (y := xs (4 * t + 1)) (by rw [nI_clamp (by omega)]) ?_
    refine lv_aload_n hx hb d_law_361 rfl (lv_at hl 0 rfl) ?_
    refine lv_iload hx hb d_law_362 (lv_at hl 4 rfl) ?_
    refine lv_iconst (v := 2) hx hb d_law_364 (by decide) ?_
    refine wy_iadd hx hb (4 * t) 2 d_law_365 ?_
    refine va_sld hx hb hX hbl hbA hW.2.2 (vp_in_nI (by omega) (by omega)) d_law_366 ?_
    refine wy_cvi (y := xs (4 * t + 2)) (by rw [nI_clamp (by omega)]) ?_
    refine X_came C hN hK hA (S_ok hS) (xs (4 * t + 1)) (xs (4 * t + 2)) hW kw_439 hl.1 (Nat.le_of_ble_eq_true rfl) d_law_367 hf0 (fun H locs hW => ?_)
    refine lv_pop hx hb d_law_370 rfl ?_
    refine lv_aload_n hx hb d_law_371 rfl (lv_at hl 2 rfl) ?_
    refine lv_aload_n hx hb d_law_372 rfl (lv_at hl 0 rfl) ?_
    refine lv_iload hx hb d_law_373 (lv_at hl 4 rfl) ?_
    refine lv_iconst (v := 1) hx hb d_law_375 (by decide) ?_
    refine wy_iadd hx hb (4 * t) 1 d_law_376 ?_
    refine va_sld hx hb hX hbl hbA hW.2.2 (vp_in_nI (by omega) (by omega)) d_law_377 ?_
    refine wy_cvi (y := xs (4 * t + 1)) (by rw [nI_clamp (by omega)]) ?_
    refine lv_aload_n hx hb d_law_378 rfl (lv_at hl 0 rfl) ?_
    refine lv_iload hx hb d_law_379 (lv_at hl 4 rfl) ?_
    refine lv_iconst (v := 2) hx hb d_law_381 (by decide) ?_
    refine wy_iadd hx hb (4 * t) 2 d_law_382 ?_
    refine va_sld hx hb hX hbl hbA hW.2.2 (vp_in_nI (by omega) (by omega)) d_law_383 ?_
    refine wy_cvi (y := xs (4 * t + 2)) (by rw [nI_clamp (by omega)]) ?_
    refine M_came C hN hK hA (S_mok hS) (xs (4 * t + 1)) (xs (4 * t + 2)) hW kw_751 hl.1 (Nat.le_of_ble_eq_true rfl) d_law_384 hf0 (fun H locs hW => ?_)
    refine lv_pop hx hb d_law_387 rfl ?_
    refine lv_goto (tgt := 595) hx hb d_law_388 (by decide) ?_
    exact W.widen (k := cells + 2) (n := slots + 127) (by omega) (by omega) (kk _ _ _ _ _ _ ((s_came hS (xs (4 * t + 1)) (xs (4 * t + 2))).2) hW (lv_sub hl [0, 1, 2, 3, 4] rfl))
  · refine lv_tableIn (tgt := 391) (off := 352) hx hb d_law_39 (by rw [c_39]; decide) (by rw [c_39]; decide) (by rw [c_39]; rfl) (by decide) ?_
    refine lv_aload_n hx hb d_law_391 rfl (lv_at hl 1 rfl) ?_
    refine lv_aload_n hx hb d_law_392 rfl (lv_at hl 0 rfl) ?_
    refine lv_iload hx hb d_law_393 (lv_at hl 4 rfl) ?_
    refine lv_iconst (v := 1) hx hb d_law_395 (by decide) ?_
    refine wy_iadd hx hb (4 * t) 1 d_law_396 ?_
    refine va_sld hx hb hX hbl hbA hW.2.2 (vp_in_nI (by omega) (by omega)) d_law_397 ?_
    refine wy_cvi (y := xs (4 * t + 1)) (by rw [nI_clamp (by omega)]) ?_
    refine lv_aload_n hx hb d_law_398 rfl (lv_at hl 0 rfl) ?_
    refine lv_iload hx hb d_law_399 (lv_at hl 4 rfl) ?_
    refine lv_iconst (v := 2) hx hb d_law_401 (by decide) ?_
    refine wy_iadd hx hb (4 * t) 2 d_law_402 ?_
    refine va_sld hx hb hX hbl hbA hW.2.2 (vp_in_nI (by omega) (by omega)) d_law_403 ?_
    refine wy_cvi (y := xs (4 * t + 2)) (by rw [nI_clamp (by omega)]) ?_
    refine X_late C hN hK hA (S_ok hS) (xs (4 * t + 1)) (xs (4 * t + 2)) hW kw_443 hl.1 (Nat.le_of_ble_eq_true rfl) d_law_404 hf0 (fun H locs hW => ?_)
    refine lv_pop hx hb d_law_407 rfl ?_
    refine lv_aload_n hx hb d_law_408 rfl (lv_at hl 2 rfl) ?_
    refine lv_aload_n hx hb d_law_409 rfl (lv_at hl 0 rfl) ?_
    refine lv_iload hx hb d_law_410 (lv_at hl 4 rfl) ?_
    refine lv_iconst (v := 1) hx hb d_law_412 (by decide) ?_
    refine wy_iadd hx hb (4 * t) 1 d_law_413 ?_
    refine va_sld hx hb hX hbl hbA hW.2.2 (vp_in_nI (by omega) (by omega)) d_law_414 ?_
    refine wy_cvi (y := xs (4 * t + 1)) (by rw [nI_clamp (by omega)]) ?_
    refine lv_aload_n hx hb d_law_415 rfl (lv_at hl 0 rfl) ?_
    refine lv_iload hx hb d_law_416 (lv_at hl 4 rfl) ?_
    refine lv_iconst (v := 2) hx hb d_law_418 (by decide) ?_
    refine wy_iadd hx hb (4 * t) 2 d_law_419 ?_
    refine va_sld hx hb hX hbl hbA hW.2.2 (vp_in_nI (by omega) (by omega)) d_law_420 ?_
    refine wy_cvi (y := xs (4 * t + 2)) (by rw [nI_clamp (by omega)]) ?_
    refine M_late C hN hK hA (S_mok hS) (xs (4 * t + 1)) (xs (4 * t + 2)) hW kw_755 hl.1 (Nat.le_of_ble_eq_true rfl) d_law_421 hf0 (fun H locs hW => ?_)
    refine lv_pop hx hb d_law_424 rfl ?_
    refine lv_goto (tgt := 595) hx hb d_law_425 (by decide) ?_
    exact W.widen (k := cells + 2) (n := slots + 127) (by omega) (by omega) (kk _ _ _ _ _ _ ((s_late hS (xs (4 * t + 1)) (xs (4 * t + 2))).2) hW (lv_sub hl [0, 1, 2, 3, 4] rfl))
  · refine lv_tableIn (tgt := 428) (off := 389) hx hb d_law_39 (by rw [c_39]; decide) (by rw [c_39]; decide) (by rw [c_39]; rfl) (by decide) ?_
    refine lv_aload_n hx hb d_law_428 rfl (lv_at hl 1 rfl) ?_
    refine lv_aload_n hx hb d_law_429 rfl (lv_at hl 0 rfl) ?_
    refine lv_iload hx hb d_law_430 (lv_at hl 4 rfl) ?_
    refine lv_iconst (v := 1) hx hb d_law_432 (by decide) ?_
    refine wy_iadd hx hb (4 * t) 1 d_law_433 ?_
    refine va_sld hx hb hX hbl hbA hW.2.2 (vp_in_nI (by omega) (by omega)) d_law_434 ?_
    refine wy_cvi (y := xs (4 * t + 1)) (by rw [nI_clamp (by omega)]) ?_
    refine lv_aload_n hx hb d_law_435 rfl (lv_at hl 0 rfl) ?_
    refine lv_iload hx hb d_law_436 (lv_at hl 4 rfl) ?_
    refine lv_iconst (v := 2) hx hb d_law_438 (by decide) ?_
    refine wy_iadd hx hb (4 * t) 2 d_law_439 ?_
    refine va_sld hx hb hX hbl hbA hW.2.2 (vp_in_nI (by omega) (by omega)) d_law_440 ?_
    refine wy_cvi (y := xs (4 * t + 2)) (by rw [nI_clamp (by omega)]) ?_
    refine X_claim C hN hK hA (S_ok hS) (xs (4 * t + 1)) (xs (4 * t + 2)) hW kw_448 hl.1 (Nat.le_of_ble_eq_true rfl) d_law_441 hf0 (fun H locs hW => ?_)
    refine lv_pop hx hb d_law_444 rfl ?_
    refine lv_aload_n hx hb d_law_445 rfl (lv_at hl 2 rfl) ?_
    refine lv_aload_n hx hb d_law_446 rfl (lv_at hl 0 rfl) ?_
    refine lv_iload hx hb d_law_447 (lv_at hl 4 rfl) ?_
    refine lv_iconst (v := 1) hx hb d_law_449 (by decide) ?_
    refine wy_iadd hx hb (4 * t) 1 d_law_450 ?_
    refine va_sld hx hb hX hbl hbA hW.2.2 (vp_in_nI (by omega) (by omega)) d_law_451 ?_
    refine wy_cvi (y := xs (4 * t + 1)) (by rw [nI_clamp (by omega)]) ?_
    refine lv_aload_n hx hb d_law_452 rfl (lv_at hl 0 rfl) ?_
    refine lv_iload hx hb d_law_453 (lv_at hl 4 rfl) ?_
    refine lv_iconst (v := 2) hx hb d_law_455 (by decide) ?_
    refine wy_iadd hx hb (4 * t) 2 d_law_456 ?_
    refine va_sld hx hb hX hbl hbA hW.2.2 (vp_in_nI (by omega) (by omega)) d_law_457 ?_
    refine wy_cvi (y := xs (4 * t + 2)) (by rw [nI_clamp (by omega)]) ?_
    refine M_claim C hN hK hA (S_mok hS) (xs (4 * t + 1)) (xs (4 * t + 2)) hW kw_763 hl.1 (Nat.le_of_ble_eq_true rfl) d_law_458 hf0 (fun H locs hW => ?_)
    refine lv_pop hx hb d_law_461 rfl ?_
    refine lv_goto (tgt := 595) hx hb d_law_462 (by decide) ?_
    exact W.widen (k := cells + 2) (n := slots + 127) (by omega) (by omega) (kk _ _ _ _ _ _ ((s_claim hS (xs (4 * t + 1)) (xs (4 * t + 2))).2) hW (lv_sub hl [0, 1, 2, 3, 4] rfl))
  · refine lv_tableIn (tgt := 465) (off := 426) hx hb d_law_39 (by rw [c_39]; decide) (by rw [c_39]; decide) (by rw [c_39]; rfl) (by decide) ?_
    refine lv_aload_n hx hb d_law_465 rfl (lv_at hl 1 rfl) ?_
    refine lv_aload_n hx hb d_law_466 rfl (lv_at hl 0 rfl) ?_
    refine lv_iload hx hb d_law_467 (lv_at hl 4 rfl) ?_
    refine lv_iconst (v := 1) hx hb d_law_469 (by decide) ?_
    refine wy_iadd hx hb (4 * t) 1 d_law_470 ?_
    refine va_sld hx hb hX hbl hbA hW.2.2 (vp_in_nI (by omega) (by omega)) d_law_471 ?_
    refine wy_cvi (y := xs (4 * t + 1)) (by rw [nI_clamp (by omega)]) ?_
    refine X_print C hN hK hA (S_ok hS) (xs (4 * t + 1)) hW kw_468 hl.1 (Nat.le_of_ble_eq_true rfl) d_law_472 hf0 (fun H locs hW => ?_)
    refine lv_pop hx hb d_law_475 rfl ?_
    refine lv_aload_n hx hb d_law_476 rfl (lv_at hl 2 rfl) ?_
    refine lv_aload_n hx hb d_law_477 rfl (lv_at hl 0 rfl) ?_
    refine lv_iload hx hb d_law_478 (lv_at hl 4 rfl) ?_
    refine lv_iconst (v := 1) hx hb d_law_480 (by decide) ?_
    refine wy_iadd hx hb (4 * t) 1 d_law_481 ?_
    refine va_sld hx hb hX hbl hbA hW.2.2 (vp_in_nI (by omega) (by omega)) d_law_482 ?_
    refine wy_cvi (y := xs (4 * t + 1)) (by rw [nI_clamp (by omega)]) ?_
    refine M_print C hN hK hA (S_mok hS) (xs (4 * t + 1)) hW kw_771 hl.1 (Nat.le_of_ble_eq_true rfl) d_law_483 hf0 (fun H locs hW => ?_)
    refine lv_pop hx hb d_law_486 rfl ?_
    refine lv_goto (tgt := 595) hx hb d_law_487 (by decide) ?_
    exact W.widen (k := cells + 2) (n := slots + 127) (by omega) (by omega) (kk _ _ _ _ _ _ ((s_print hS (xs (4 * t + 1))).2) hW (lv_sub hl [0, 1, 2, 3, 4] rfl))
  · refine lv_tableIn (tgt := 490) (off := 451) hx hb d_law_39 (by rw [c_39]; decide) (by rw [c_39]; decide) (by rw [c_39]; rfl) (by decide) ?_
    refine lv_aload_n hx hb d_law_490 rfl (lv_at hl 1 rfl) ?_
    refine lv_aload_n hx hb d_law_491 rfl (lv_at hl 0 rfl) ?_
    refine lv_iload hx hb d_law_492 (lv_at hl 4 rfl) ?_
    refine lv_iconst (v := 1) hx hb d_law_494 (by decide) ?_
    refine wy_iadd hx hb (4 * t) 1 d_law_495 ?_
    refine va_sld hx hb hX hbl hbA hW.2.2 (vp_in_nI (by omega) (by omega)) d_law_496 ?_
    refine wy_cvi (y := xs (4 * t + 1)) (by rw [nI_clamp (by omega)]) ?_
    refine X_at C hN hK hA (S_ok hS) (xs (4 * t + 1)) hW kw_472 hl.1 (Nat.le_of_ble_eq_true rfl) d_law_497 hf0 (fun H locs hW => ?_)
    refine lv_pop hx hb d_law_500 rfl ?_
    refine lv_aload_n hx hb d_law_501 rfl (lv_at hl 2 rfl) ?_
    refine lv_aload_n hx hb d_law_502 rfl (lv_at hl 0 rfl) ?_
    refine lv_iload hx hb d_law_503 (lv_at hl 4 rfl) ?_
    refine lv_iconst (v := 1) hx hb d_law_505 (by decide) ?_
    refine wy_iadd hx hb (4 * t) 1 d_law_506 ?_
    refine va_sld hx hb hX hbl hbA hW.2.2 (vp_in_nI (by omega) (by omega)) d_law_507 ?_
    refine wy_cvi (y := xs (4 * t + 1)) (by rw [nI_clamp (by omega)]) ?_
    refine M_at C hN hK hA (S_mok hS) (xs (4 * t + 1)) hW kw_775 hl.1 (Nat.le_of_ble_eq_true rfl) d_law_508 hf0 (fun H locs hW => ?_)
    refine lv_pop hx hb d_law_511 rfl ?_
    refine lv_goto (tgt := 595) hx hb d_law_512 (by decide) ?_
    exact W.widen (k := cells + 2) (n := slots + 127) (by omega) (by omega) (kk _ _ _ _ _ _ ((s_at hS (xs (4 * t + 1))).2) hW (lv_sub hl [0, 1, 2, 3, 4] rfl))
  · refine lv_tableIn (tgt := 515) (off := 476) hx hb d_law_39 (by rw [c_39]; decide) (by rw [c_39]; decide) (by rw [c_39]; rfl) (by decide) ?_
    refine lv_aload_n hx hb d_law_515 rfl (lv_at hl 1 rfl) ?_
    refine lv_aload_n hx hb d_law_516 rfl (lv_at hl 0 rfl) ?_
    refine lv_iload hx hb d_law_517 (lv_at hl 4 rfl) ?_
    refine lv_iconst (v := 1) hx hb d_law_519 (by decide) ?_
    refine wy_iadd hx hb (4 * t) 1 d_law_520 ?_
    refine va_sld hx hb hX hbl hbA hW.2.2 (vp_in_nI (by omega) (by omega)) d_law_521 ?_
    refine wy_cvi (y := xs (4 * t + 1)) (by rw [nI_clamp (by omega)]) ?_
    refine lv_aload_n hx hb d_law_522 rfl (lv_at hl 0 rfl) ?_
    refine lv_iload hx hb d_law_523 (lv_at hl 4 rfl) ?_
    refine lv_iconst (v := 2) hx hb d_law_525 (by decide) ?_
    refine wy_iadd hx hb (4 * t) 2 d_law_526 ?_
    refine va_sld hx hb hX hbl hbA hW.2.2 (vp_in_nI (by omega) (by omega)) d_law_527 ?_
    refine wy_cvi (y := xs (4 * t + 2)) (by rw [nI_clamp (by omega)]) ?_
    refine lv_aload_n hx hb d_law_528 rfl (lv_at hl 0 rfl) ?_
    refine lv_iload hx hb d_law_529 (lv_at hl 4 rfl) ?_
    refine lv_iconst (v := 3) hx hb d_law_531 (by decide) ?_
    refine wy_iadd hx hb (4 * t) 3 d_law_532 ?_
    refine va_sld hx hb hX hbl hbA hW.2.2 (vp_in_nI (by omega) (by omega)) d_law_533 ?_
    refine wy_cvi (y := xs (4 * t + 3)) (by rw [nI_clamp (by omega)]) ?_
    refine lv_aload_n hx hb d_law_534 rfl (lv_at hl 3 rfl) ?_
    refine X_yearly C hN hK hA hst hE9 (S_ok hS) (xs (4 * t + 1)) (xs (4 * t + 2)) (xs (4 * t + 3)) hW kw_476 hl.1 (Nat.le_of_ble_eq_true rfl) d_law_535 hf1 (fun H locs hW => ?_)
    refine lv_istore (lv' := [(5, .int ((xs_yearly x (xs (4 * t + 1)) (xs (4 * t + 2)) (xs (4 * t + 3))).1)), (0, .ref b), (1, .ref (A 0)), (2, .ref (A 16)), (3, .ref (A 33)), (4, .int (nI (4 * t)))]) hx hb d_law_538 hl (by decide) rfl (fun ls hl => ?_)
    refine lv_aload_n hx hb d_law_540 rfl (lv_at hl 3 rfl) ?_
    refine lv_aload_n hx hb d_law_541 rfl (lv_at hl 1 rfl) ?_
    refine lv_iload hx hb d_law_542 (lv_at hl 5 rfl) ?_
    refine lv_iconst (v := 1) hx hb d_law_544 (by decide) ?_
    refine wy_iadd hx hb (4 * t) 1 d_law_545 ?_
    refine va_sld hx hb hX hbl hbA hW.2.2 (vp_in_nI (by omega) (by omega)) d_law_546 ?_
    refine wy_cvi (y := xs (4 * t + 1)) (by rw [nI_clamp (by omega)]) ?_
    refine lv_aload_n hx hb d_law_547 rfl (lv_at hl 1 rfl) ?_
    refine lv_iload hx hb d_law_548 (lv_at hl 5 rfl) ?_
    refine lv_iconst (v := 2) hx hb d_law_550 (by decide) ?_
    refine wy_iadd hx hb (4 * t) 2 d_law_551 ?_
    refine va_sld hx hb hX hbl hbA hW.2.2 (vp_in_nI (by omega) (by omega)) d_law_552 ?_
    refine wy_cvi (y := xs (4 * t + 2)) (by rw [nI_clamp (by omega)]) ?_
    refine lv_aload_n hx hb d_law_553 rfl (lv_at hl 1 rfl) ?_
    refine lv_iload hx hb d_law_554 (lv_at hl 5 rfl) ?_
    refine lv_iconst (v := 3) hx hb d_law_556 (by decide) ?_
    refine wy_iadd hx hb (4 * t) 3 d_law_557 ?_
    refine va_sld hx hb hX hbl hbA hW.2.2 (vp_in_nI (by omega) (by omega)) d_law_558 ?_
    refine wy_cvi (y := xs (4 * t + 3)) (by rw [nI_clamp (by omega)]) ?_
    refine M_yearly C hN hK hA (S_mok hS) (xs (4 * t + 1)) (xs (4 * t + 2)) (xs (4 * t + 3)) hW kw_779 hl.1 (Nat.le_of_ble_eq_true rfl) d_law_559 hf1 (fun H locs hW => ?_)
    refine lv_istore (lv' := [(6, .int ((ms_yearly u (xs (4 * t + 1)) (xs (4 * t + 2)) (xs (4 * t + 3))).1)), (5, .int ((xs_yearly x (xs (4 * t + 1)) (xs (4 * t + 2)) (xs (4 * t + 3))).1)), (0, .ref b), (1, .ref (A 0)), (2, .ref (A 16)), (3, .ref (A 33)), (4, .int (nI (4 * t)))]) hx hb d_law_562 hl (by decide) rfl (fun ls hl => ?_)
    refine lv_aload_n hx hb d_law_564 rfl (lv_at hl 4 rfl) ?_
    refine M_thrown C hN hK hA hW kw_634 hl.1 (Nat.le_of_ble_eq_true rfl) d_law_565 hf1 (fun H locs hW => ?_)
    refine lv_iload hx hb d_law_568 (lv_at hl 1 rfl) ?_
    refine lv_icmp_eq (tgt := 575) hx hb d_law_570 (by decide) (fun _ => ?_) (fun z9 => absurd ((s_yearly hS (xs (4 * t + 1)) (xs (4 * t + 2)) (xs (4 * t + 3))).1) z9)
    refine lv_iload hx hb d_law_575 (lv_at hl 1 rfl) ?_
    refine lv_if_ne (tgt := 592) hx hb d_law_577 (by decide) (fun _ => ?_) (fun c_577 => ?_)
    · refine lv_goto (tgt := 595) hx hb d_law_592 (by decide) ?_
      exact W.widen (k := cells + 2) (n := slots + 127) (by omega) (by omega) (kk _ _ _ _ _ _ (by rw [ms_thr]; exact (s_yearly hS (xs (4 * t + 1)) (xs (4 * t + 2)) (xs (4 * t + 3))).2.2) hW (lv_sub hl [2, 3, 4, 5, 6] rfl))
    · have c9 : ((xs_yearly x (xs (4 * t + 1)) (xs (4 * t + 2)) (xs (4 * t + 3))).1) = 0 := by first | exact c_577 | exact Classical.not_not.mp c_577
      refine lv_aload_n hx hb d_law_580 rfl (lv_at hl 5 rfl) ?_
      refine lv_iconst (v := 0) hx hb d_law_581 (by decide) ?_
      refine O_load C hK hW d_law_582 ?_
      refine lv_iload hx hb d_law_583 (lv_at hl 0 rfl) ?_
      refine lv_i2l (v := ((ms_yearly u (xs (4 * t + 1)) (xs (4 * t + 2)) (xs (4 * t + 3))).1).toInt64) hx hb d_law_585 rfl ?_
      refine W.lcmp hx hb d_law_586 ?_
      refine lv_if_eq (tgt := 592) hx hb d_law_587 (by decide) (fun _ => ?_) (fun z9 => absurd ((lg_cmp_eq _ _).mpr (by unfold xo_yearly; rw [if_pos c9]; exact congrArg Int32.toInt64 ((s_yearly hS (xs (4 * t + 1)) (xs (4 * t + 2)) (xs (4 * t + 3))).2.1 c9))) z9)
      refine lv_goto (tgt := 595) hx hb d_law_592 (by decide) ?_
      exact W.widen (k := cells + 2) (n := slots + 127) (by omega) (by omega) (kk _ _ _ _ _ _ (by rw [ms_thr]; exact (s_yearly hS (xs (4 * t + 1)) (xs (4 * t + 2)) (xs (4 * t + 3))).2.2) hW (lv_sub hl [2, 3, 4, 5, 6] rfl))
