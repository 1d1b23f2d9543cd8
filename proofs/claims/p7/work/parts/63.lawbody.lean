set_option maxHeartbeats 4000000 in
set_option maxRecDepth 100000 in
theorem law_body {p : Program} {l : Launch} {e : Env} {s : State} {m : MethodId} {below : List Frame} {meth : Method} {c : Code} {b L : Nat} {xs : Nat → Int32} {dC : Nat → ClassId} {dI : Nat → Nat → Nat} {A : Nat → Nat} {K : Nat → ClassId} {ad av : Nat → Nat} {Q : State → Prop} (C : CallFix p m c code 7 s #[Value.ref b] ga_tbl "PatternTextLaw") (hN : ga_N s) (hK : va_K (dC, dI) ga_cl (wz_T K) s) (hE : sv_E ad av (fun q : Nat => s.heap.size ≤ q) s s.heap) (hX : va_X b L xs s s.heap) (hbl : b < s.heap.size) (hL : L ≤ 2048) {aM : Nat} (hst : l.stackTraces = false) (hE9 : xt_E aM (fun q : Nat => s.heap.size ≤ q) s s.heap) {x : wz_X} {u : wz_M} {o : Nat → Int64} {H : Heap} {locs : List Loc} {cells slots : Nat} (t : Nat) (ht : 4 * t + 4 ≤ L) (hS : wz_S x u) (hW : wz_W dC dI (fun q : Nat => s.heap.size ≤ q) A K s x u o H locs) (hf : cells + 2 ≤ room_1.cells ∧ slots + 127 ≤ room_1.slots) {ls : Array Slot} (hl : lv_has ls 7 [(0, .ref b), (1, .ref (A 0)), (2, .ref (A 16)), (3, .ref (A 33)), (4, .int (nI (4 * t)))])
    (kk : ∀ (x' : wz_X) (u' : wz_M) (o' : Nat → Int64) (H1 : Heap) (locs1 : List Loc) (ls' : Array Slot), wz_S x' u' → wz_W dC dI (fun q : Nat => s.heap.size ≤ q) A K s x' u' o' H1 locs1 → lv_has ls' 7 [(0, .ref b), (1, .ref (A 0)), (2, .ref (A 16)), (3, .ref (A 33)), (4, .int (nI (4 * t)))] → W p l e room_1 s m #[Value.ref b] below meth c H1 locs1 (cells + 2) (slots + 127) Q (F0 m 568 ls' [])) : W p l e room_1 s m #[Value.ref b] below meth c H locs cells slots Q (F0 m 32 ls []) := by
  have hA : ∀ q : Nat, s.heap.size ≤ q → (fun q : Nat => s.heap.size ≤ q) q := fun _ h => h
  have hbA : ¬ (fun q : Nat => s.heap.size ≤ q) b := Nat.not_le.mpr hbl
  obtain ⟨hx, hb, hml, hown, hts⟩ := id C
  have hf0 : cells ≤ room_1.cells ∧ slots ≤ room_1.slots := ⟨Nat.le_trans (Nat.le_add_right _ _) hf.1, Nat.le_trans (Nat.le_add_right _ _) hf.2⟩
  have hf1 : cells + 1 ≤ room_1.cells ∧ slots + 6 ≤ room_1.slots := ⟨Nat.le_trans (by omega) hf.1, Nat.le_trans (by omega) hf.2⟩
  refine lv_aload_n hx hb d_law_32 rfl (lv_at hl 0 rfl) ?_
  refine lv_iload hx hb d_law_33 (lv_at hl 4 rfl) ?_
  refine va_sld hx hb hX hbl hbA hW.2.2 (vp_in_nI (by omega) (by omega)) d_law_35 ?_
  refine wy_cvi (y := xs (4 * t)) (by rw [nI_clamp (by omega)]) ?_
  refine lv_bipush (v := 15) hx hb d_law_36 (by decide) ?_
  refine lv_iand hx hb d_law_38 ?_
  rcases sw_0_13 ((xs (4 * t)) &&& 15) with c_39 | c_39 | c_39 | c_39 | c_39 | c_39 | c_39 | c_39 | c_39 | c_39 | c_39 | c_39 | c_39 | c_39 | c_39
  · refine lv_tableOut (tgt := 568) hx hb d_law_39 c_39 (by decide) ?_
    exact W.widen (k := cells + 2) (n := slots + 127) (by omega) (by omega) (kk _ _ _ _ _ _ (hS) hW (lv_sub hl [0, 1, 2, 3, 4] rfl))
  · refine lv_tableIn (tgt := 108) (off := 69) hx hb d_law_39 (by rw [c_39]; decide) (by rw [c_39]; decide) (by rw [c_39]; rfl) (by decide) ?_
    refine lv_aload_n hx hb d_law_108 rfl (lv_at hl 1 rfl) ?_
    refine lv_aload_n hx hb d_law_109 rfl (lv_at hl 0 rfl) ?_
    refine lv_iload hx hb d_law_110 (lv_at hl 4 rfl) ?_
    refine lv_iconst (v := 1) hx hb d_law_112 (by decide) ?_
    refine wy_iadd hx hb (4 * t) 1 d_law_113 ?_
    refine va_sld hx hb hX hbl hbA hW.2.2 (vp_in_nI (by omega) (by omega)) d_law_114 ?_
    refine wy_cvi (y := xs (4 * t + 1)) (by rw [nI_clamp (by omega)]) ?_
    refine X_sign C hN hK hA (S_ok hS) (xs (4 * t + 1)) hW kw_174 hl.1 (Nat.le_of_ble_eq_true rfl) d_law_115 hf0 (fun H locs hW => ?_)
    refine lv_aload_n hx hb d_law_118 rfl (lv_at hl 2 rfl) ?_
    refine lv_aload_n hx hb d_law_119 rfl (lv_at hl 0 rfl) ?_
    refine lv_iload hx hb d_law_120 (lv_at hl 4 rfl) ?_
    refine lv_iconst (v := 1) hx hb d_law_122 (by decide) ?_
    refine wy_iadd hx hb (4 * t) 1 d_law_123 ?_
    refine va_sld hx hb hX hbl hbA hW.2.2 (vp_in_nI (by omega) (by omega)) d_law_124 ?_
    refine wy_cvi (y := xs (4 * t + 1)) (by rw [nI_clamp (by omega)]) ?_
    refine M_sign C hN hK hA (S_mok hS) (xs (4 * t + 1)) hW kw_634 hl.1 (Nat.le_of_ble_eq_true rfl) d_law_125 hf0 (fun H locs hW => ?_)
    refine lv_goto (tgt := 568) hx hb d_law_128 (by decide) ?_
    exact W.widen (k := cells + 2) (n := slots + 127) (by omega) (by omega) (kk _ _ _ _ _ _ (s_sign hS (xs (4 * t + 1))) hW (lv_sub hl [0, 1, 2, 3, 4] rfl))
  · refine lv_tableIn (tgt := 131) (off := 92) hx hb d_law_39 (by rw [c_39]; decide) (by rw [c_39]; decide) (by rw [c_39]; rfl) (by decide) ?_
    refine lv_aload_n hx hb d_law_131 rfl (lv_at hl 1 rfl) ?_
    refine X_read C hN hK hA hE (S_ok hS) hW kw_182 hl.1 (Nat.le_of_ble_eq_true rfl) d_law_132 hf (fun a9 b9 H locs hW => ?_)
    refine lv_pop hx hb d_law_135 rfl ?_
    refine lv_aload_n hx hb d_law_136 rfl (lv_at hl 2 rfl) ?_
    refine M_read C hN hK hA (S_mok hS) hW kw_638 hl.1 (Nat.le_of_ble_eq_true rfl) d_law_137 hf (fun H locs hW => ?_)
    refine lv_pop hx hb d_law_140 rfl ?_
    refine lv_goto (tgt := 568) hx hb d_law_141 (by decide) ?_
    exact kk _ _ _ _ _ _ (s_read hS a9 b9) hW (lv_sub hl [0, 1, 2, 3, 4] rfl)
  · refine lv_tableIn (tgt := 144) (off := 105) hx hb d_law_39 (by rw [c_39]; decide) (by rw [c_39]; decide) (by rw [c_39]; rfl) (by decide) ?_
    refine lv_aload_n hx hb d_law_144 rfl (lv_at hl 1 rfl) ?_
    refine lv_aload_n hx hb d_law_145 rfl (lv_at hl 0 rfl) ?_
    refine lv_iload hx hb d_law_146 (lv_at hl 4 rfl) ?_
    refine lv_iconst (v := 1) hx hb d_law_148 (by decide) ?_
    refine wy_iadd hx hb (4 * t) 1 d_law_149 ?_
    refine va_sld hx hb hX hbl hbA hW.2.2 (vp_in_nI (by omega) (by omega)) d_law_150 ?_
    refine wy_cvi (y := xs (4 * t + 1)) (by rw [nI_clamp (by omega)]) ?_
    refine lv_aload_n hx hb d_law_151 rfl (lv_at hl 0 rfl) ?_
    refine lv_iload hx hb d_law_152 (lv_at hl 4 rfl) ?_
    refine lv_iconst (v := 2) hx hb d_law_154 (by decide) ?_
    refine wy_iadd hx hb (4 * t) 2 d_law_155 ?_
    refine va_sld hx hb hX hbl hbA hW.2.2 (vp_in_nI (by omega) (by omega)) d_law_156 ?_
    refine wy_cvi (y := xs (4 * t + 2)) (by rw [nI_clamp (by omega)]) ?_
    refine lv_aload_n hx hb d_law_157 rfl (lv_at hl 0 rfl) ?_
    refine lv_iload hx hb d_law_158 (lv_at hl 4 rfl) ?_
    refine lv_iconst (v := 3) hx hb d_law_160 (by decide) ?_
    refine wy_iadd hx hb (4 * t) 3 d_law_161 ?_
    refine va_sld hx hb hX hbl hbA hW.2.2 (vp_in_nI (by omega) (by omega)) d_law_162 ?_
    refine wy_cvi (y := xs (4 * t + 3)) (by rw [nI_clamp (by omega)]) ?_
    refine X_foretell C hN hK hA (S_ok hS) (xs (4 * t + 1)) (xs (4 * t + 2)) (xs (4 * t + 3)) hW kw_342 hl.1 (Nat.le_of_ble_eq_true rfl) d_law_163 hf0 (fun H locs hW => ?_)
    refine lv_pop hx hb d_law_166 rfl ?_
    refine lv_aload_n hx hb d_law_167 rfl (lv_at hl 2 rfl) ?_
    refine lv_aload_n hx hb d_law_168 rfl (lv_at hl 0 rfl) ?_
    refine lv_iload hx hb d_law_169 (lv_at hl 4 rfl) ?_
    refine lv_iconst (v := 1) hx hb d_law_171 (by decide) ?_
    refine wy_iadd hx hb (4 * t) 1 d_law_172 ?_
    refine va_sld hx hb hX hbl hbA hW.2.2 (vp_in_nI (by omega) (by omega)) d_law_173 ?_
    refine wy_cvi (y := xs (4 * t + 1)) (by rw [nI_clamp (by omega)]) ?_
    refine lv_aload_n hx hb d_law_174 rfl (lv_at hl 0 rfl) ?_
    refine lv_iload hx hb d_law_175 (lv_at hl 4 rfl) ?_
    refine lv_iconst (v := 2) hx hb d_law_177 (by decide) ?_
    refine wy_iadd hx hb (4 * t) 2 d_law_178 ?_
    refine va_sld hx hb hX hbl hbA hW.2.2 (vp_in_nI (by omega) (by omega)) d_law_179 ?_
    refine wy_cvi (y := xs (4 * t + 2)) (by rw [nI_clamp (by omega)]) ?_
    refine lv_aload_n hx hb d_law_180 rfl (lv_at hl 0 rfl) ?_
    refine lv_iload hx hb d_law_181 (lv_at hl 4 rfl) ?_
    refine lv_iconst (v := 3) hx hb d_law_183 (by decide) ?_
    refine wy_iadd hx hb (4 * t) 3 d_law_184 ?_
    refine va_sld hx hb hX hbl hbA hW.2.2 (vp_in_nI (by omega) (by omega)) d_law_185 ?_
    refine wy_cvi (y := xs (4 * t + 3)) (by rw [nI_clamp (by omega)]) ?_
    refine M_foretell C hN hK hA (S_mok hS) (xs (4 * t + 1)) (xs (4 * t + 2)) (xs (4 * t + 3)) hW kw_707 hl.1 (Nat.le_of_ble_eq_true rfl) d_law_186 hf0 (fun H locs hW => ?_)
    refine lv_pop hx hb d_law_189 rfl ?_
    refine lv_goto (tgt := 568) hx hb d_law_190 (by decide) ?_
    exact W.widen (k := cells + 2) (n := slots + 127) (by omega) (by omega) (kk _ _ _ _ _ _ ((s_foretell hS (xs (4 * t + 1)) (xs (4 * t + 2)) (xs (4 * t + 3))).2) hW (lv_sub hl [0, 1, 2, 3, 4] rfl))
  · refine lv_tableIn (tgt := 193) (off := 154) hx hb d_law_39 (by rw [c_39]; decide) (by rw [c_39]; decide) (by rw [c_39]; rfl) (by decide) ?_
    refine lv_aload_n hx hb d_law_193 rfl (lv_at hl 1 rfl) ?_
    refine lv_aload_n hx hb d_law_194 rfl (lv_at hl 0 rfl) ?_
    refine lv_iload hx hb d_law_195 (lv_at hl 4 rfl) ?_
    refine lv_iconst (v := 1) hx hb d_law_197 (by decide) ?_
    refine wy_iadd hx hb (4 * t) 1 d_law_198 ?_
    refine va_sld hx hb hX hbl hbA hW.2.2 (vp_in_nI (by omega) (by omega)) d_law_199 ?_
    refine wy_cvi (y := xs (4 * t + 1)) (by rw [nI_clamp (by omega)]) ?_
    refine lv_aload_n hx hb d_law_200 rfl (lv_at hl 0 rfl) ?_
    refine lv_iload hx hb d_law_201 (lv_at hl 4 rfl) ?_
    refine lv_iconst (v := 2) hx hb d_law_203 (by decide) ?_
    refine wy_iadd hx hb (4 * t) 2 d_law_204 ?_
    refine va_sld hx hb hX hbl hbA hW.2.2 (vp_in_nI (by omega) (by omega)) d_law_205 ?_
    refine wy_cvi (y := xs (4 * t + 2)) (by rw [nI_clamp (by omega)]) ?_
    refine X_changed C hN hK hA (S_ok hS) (xs (4 * t + 1)) (xs (4 * t + 2)) hW kw_392 hl.1 (Nat.le_of_ble_eq_true rfl) d_law_206 hf0 (fun H locs hW => ?_)
    refine lv_pop hx hb d_law_209 rfl ?_
    refine lv_aload_n hx hb d_law_210 rfl (lv_at hl 2 rfl) ?_
    refine lv_aload_n hx hb d_law_211 rfl (lv_at hl 0 rfl) ?_
    refine lv_iload hx hb d_law_212 (lv_at hl 4 rfl) ?_
    refine lv_iconst (v := 1) hx hb d_law_214 (by decide) ?_
    refine wy_iadd hx hb (4 * t) 1 d_law_215 ?_
    refine va_sld hx hb hX hbl hbA hW.2.2 (vp_in_nI (by omega) (by omega)) d_law_216 ?_
    refine wy_cvi (y := xs (4 * t + 1)) (by rw [nI_clamp (by omega)]) ?_
    refine lv_aload_n hx hb d_law_217 rfl (lv_at hl 0 rfl) ?_
    refine lv_iload hx hb d_law_218 (lv_at hl 4 rfl) ?_
    refine lv_iconst (v := 2) hx hb d_law_220 (by decide) ?_
    refine wy_iadd hx hb (4 * t) 2 d_law_221 ?_
    refine va_sld hx hb hX hbl hbA hW.2.2 (vp_in_nI (by omega) (by omega)) d_law_222 ?_
    refine wy_cvi (y := xs (4 * t + 2)) (by rw [nI_clamp (by omega)]) ?_
    refine M_changed C hN hK hA (S_mok hS) (xs (4 * t + 1)) (xs (4 * t + 2)) hW kw_723 hl.1 (Nat.le_of_ble_eq_true rfl) d_law_223 hf0 (fun H locs hW => ?_)
    refine lv_pop hx hb d_law_226 rfl ?_
    refine lv_goto (tgt := 568) hx hb d_law_227 (by decide) ?_
    exact W.widen (k := cells + 2) (n := slots + 127) (by omega) (by omega) (kk _ _ _ _ _ _ ((s_changed hS (xs (4 * t + 1)) (xs (4 * t + 2))).2) hW (lv_sub hl [0, 1, 2, 3, 4] rfl))
  · refine lv_tableIn (tgt := 230) (off := 191) hx hb d_law_39 (by rw [c_39]; decide) (by rw [c_39]; decide) (by rw [c_39]; rfl) (by decide) ?_
    refine lv_aload_n hx hb d_law_230 rfl (lv_at hl 1 rfl) ?_
    refine lv_aload_n hx hb d_law_231 rfl (lv_at hl 0 rfl) ?_
    refine lv_iload hx hb d_law_232 (lv_at hl 4 rfl) ?_
    refine lv_iconst (v := 1) hx hb d_law_234 (by decide) ?_
    refine wy_iadd hx hb (4 * t) 1 d_law_235 ?_
    refine va_sld hx hb hX hbl hbA hW.2.2 (vp_in_nI (by omega) (by omega)) d_law_236 ?_
    refine wy_cvi (y := xs (4 * t + 1)) (by rw [nI_clamp (by omega)]) ?_
    refine lv_aload_n hx hb d_law_237 rfl (lv_at hl 0 rfl) ?_
    refine lv_iload hx hb d_law_238 (lv_at hl 4 rfl) ?_
    refine lv_iconst (v := 2) hx hb d_law_240 (by decide) ?_
    refine wy_iadd hx hb (4 * t) 2 d_law_241 ?_
    refine va_sld hx hb hX hbl hbA hW.2.2 (vp_in_nI (by omega) (by omega)) d_law_242 ?_
    refine wy_cvi (y := xs (4 * t + 2)) (by rw [nI_clamp (by omega)]) ?_
    refine X_issue C hN hK hA (S_ok hS) (xs (4 * t + 1)) (xs (4 * t + 2)) hW kw_415 hl.1 (Nat.le_of_ble_eq_true rfl) d_law_243 hf0 (fun H locs hW => ?_)
    refine lv_pop hx hb d_law_246 rfl ?_
    refine lv_aload_n hx hb d_law_247 rfl (lv_at hl 2 rfl) ?_
    refine lv_aload_n hx hb d_law_248 rfl (lv_at hl 0 rfl) ?_
    refine lv_iload hx hb d_law_249 (lv_at hl 4 rfl) ?_
    refine lv_iconst (v := 1) hx hb d_law_251 (by decide) ?_
    refine wy_iadd hx hb (4 * t) 1 d_law_252 ?_
    refine va_sld hx hb hX hbl hbA hW.2.2 (vp_in_nI (by omega) (by omega)) d_law_253 ?_
    refine wy_cvi (y := xs (4 * t + 1)) (by rw [nI_clamp (by omega)]) ?_
    refine lv_aload_n hx hb d_law_254 rfl (lv_at hl 0 rfl) ?_
    refine lv_iload hx hb d_law_255 (lv_at hl 4 rfl) ?_
    refine lv_iconst (v := 2) hx hb d_law_257 (by decide) ?_
    refine wy_iadd hx hb (4 * t) 2 d_law_258 ?_
    refine va_sld hx hb hX hbl hbA hW.2.2 (vp_in_nI (by omega) (by omega)) d_law_259 ?_
    refine wy_cvi (y := xs (4 * t + 2)) (by rw [nI_clamp (by omega)]) ?_
    refine M_issue C hN hK hA (S_mok hS) (xs (4 * t + 1)) (xs (4 * t + 2)) hW kw_727 hl.1 (Nat.le_of_ble_eq_true rfl) d_law_260 hf0 (fun H locs hW => ?_)
    refine lv_pop hx hb d_law_263 rfl ?_
    refine lv_goto (tgt := 568) hx hb d_law_264 (by decide) ?_
    exact W.widen (k := cells + 2) (n := slots + 127) (by omega) (by omega) (kk _ _ _ _ _ _ ((s_issue hS (xs (4 * t + 1)) (xs (4 * t + 2))).2) hW (lv_sub hl [0, 1, 2, 3, 4] rfl))
  · refine lv_tableIn (tgt := 267) (off := 228) hx hb d_law_39 (by rw [c_39]; decide) (by rw [c_39]; decide) (by rw [c_39]; rfl) (by decide) ?_
    refine lv_aload_n hx hb d_law_267 rfl (lv_at hl 1 rfl) ?_
    refine lv_aload_n hx hb d_law_268 rfl (lv_at hl 0 rfl) ?_
    refine lv_iload hx hb d_law_269 (lv_at hl 4 rfl) ?_
    refine lv_iconst (v := 1) hx hb d_law_271 (by decide) ?_
    refine wy_iadd hx hb (4 * t) 1 d_law_272 ?_
    refine va_sld hx hb hX hbl hbA hW.2.2 (vp_in_nI (by omega) (by omega)) d_law_273 ?_
    refine wy_cvi (y := xs (4 * t + 1)) (by rw [nI_clamp (by omega)]) ?_
    refine X_date C hN hK hA (S_ok hS) (xs (4 * t + 1)) hW kw_421 hl.1 (Nat.le_of_ble_eq_true rfl) d_law_274 hf0 (fun H locs hW => ?_)
    refine lv_aload_n hx hb d_law_277 rfl (lv_at hl 2 rfl) ?_
    refine lv_aload_n hx hb d_law_278 rfl (lv_at hl 0 rfl) ?_
    refine lv_iload hx hb d_law_279 (lv_at hl 4 rfl) ?_
    refine lv_iconst (v := 1) hx hb d_law_281 (by decide) ?_
    refine wy_iadd hx hb (4 * t) 1 d_law_282 ?_
    refine va_sld hx hb hX hbl hbA hW.2.2 (vp_in_nI (by omega) (by omega)) d_law_283 ?_
    refine wy_cvi (y := xs (4 * t + 1)) (by rw [nI_clamp (by omega)]) ?_
    refine M_date C hN hK hA (S_mok hS) (xs (4 * t + 1)) hW kw_739 hl.1 (Nat.le_of_ble_eq_true rfl) d_law_284 hf0 (fun H locs hW => ?_)
    refine W.lcmp hx hb d_law_287 ?_
    refine lv_if_eq (tgt := 568) hx hb d_law_288 (by decide) (fun _ => ?_) (fun z9 => absurd ((lg_cmp_eq _ _).mpr ((s_date hS (xs (4 * t + 1))).1)) z9)
    exact W.widen (k := cells + 2) (n := slots + 127) (by omega) (by omega) (kk _ _ _ _ _ _ ((s_date hS (xs (4 * t + 1))).2) hW (lv_sub hl [0, 1, 2, 3, 4] rfl))
  · refine lv_tableIn (tgt := 293) (off := 254) hx hb d_law_39 (by rw [c_39]; decide) (by rw [c_39]; decide) (by rw [c_39]; rfl) (by decide) ?_
    refine lv_aload_n hx hb d_law_293 rfl (lv_at hl 1 rfl) ?_
    refine lv_aload_n hx hb d_law_294 rfl (lv_at hl 0 rfl) ?_
    refine lv_iload hx hb d_law_295 (lv_at hl 4 rfl) ?_
    refine lv_iconst (v := 1) hx hb d_law_297 (by decide) ?_
    refine wy_iadd hx hb (4 * t) 1 d_law_298 ?_
    refine va_sld hx hb hX hbl hbA hW.2.2 (vp_in_nI (by omega) (by omega)) d_law_299 ?_
    refine wy_cvi (y := xs (4 * t + 1)) (by rw [nI_clamp (by omega)]) ?_
    refine lv_aload_n hx hb d_law_300 rfl (lv_at hl 0 rfl) ?_
    refine lv_iload hx hb d_law_301 (lv_at hl 4 rfl) ?_
    refine lv_iconst (v := 2) hx hb d_law_303 (by decide) ?_
    refine wy_iadd hx hb (4 * t) 2 d_law_304 ?_
    refine va_sld hx hb hX hbl hbA hW.2.2 (vp_in_nI (by omega) (by omega)) d_law_305 ?_
    refine wy_cvi (y := xs (4 * t + 2)) (by rw [nI_clamp (by omega)]) ?_
    refine X_irregular C hN hK hA (S_ok hS) (xs (4 * t + 1)) (xs (4 * t + 2)) hW kw_426 hl.1 (Nat.le_of_ble_eq_true rfl) d_law_306 hf0 (fun H locs hW => ?_)
    refine lv_pop hx hb d_law_309 rfl ?_
    refine lv_aload_n hx hb d_law_310 rfl (lv_at hl 2 rfl) ?_
    refine lv_aload_n hx hb d_law_311 rfl (lv_at hl 0 rfl) ?_
    refine lv_iload hx hb d_law_312 (lv_at hl 4 rfl) ?_
    refine lv_iconst (v := 1) hx hb d_law_314 (by decide) ?_
    refine wy_iadd hx hb (4 * t) 1 d_law_315 ?_
    refine va_sld hx hb hX hbl hbA hW.2.2 (vp_in_nI (by omega) (by omega)) d_law_316 ?_
    refine wy_cvi (y := xs (4 * t + 1)) (by rw [nI_clamp (by omega)]) ?_
    refine lv_aload_n hx hb d_law_317 rfl (lv_at hl 0 rfl) ?_
    refine lv_iload hx hb d_law_318 (lv_at hl 4 rfl) ?_
    refine lv_iconst (v := 2) hx hb d_law_320 (by decide) ?_
    refine wy_iadd hx hb (4 * t) 2 d_law_321 ?_
    refine va_sld hx hb hX hbl hbA hW.2.2 (vp_in_nI (by omega) (by omega)) d_law_322 ?_
    refine wy_cvi (y := xs (4 * t + 2)) (by rw [nI_clamp (by omega)]) ?_
    refine M_irregular C hN hK hA (S_mok hS) (xs (4 * t + 1)) (xs (4 * t + 2)) hW kw_743 hl.1 (Nat.le_of_ble_eq_true rfl) d_law_323 hf0 (fun H locs hW => ?_)
    refine lv_pop hx hb d_law_326 rfl ?_
    refine lv_goto (tgt := 568) hx hb d_law_327 (by decide) ?_
    exact W.widen (k := cells + 2) (n := slots + 127) (by omega) (by omega) (kk _ _ _ _ _ _ ((s_irregular hS (xs (4 * t + 1)) (xs (4 * t + 2))).2) hW (lv_sub hl [0, 1, 2, 3, 4] rfl))
  · refine lv_tableIn (tgt := 330) (off := 291) hx hb d_law_39 (by rw [c_39]; decide) (by rw [c_39]; decide) (by rw [c_39]; rfl) (by decide) ?_
    refine lv_aload_n hx hb d_law_330 rfl (lv_at hl 1 rfl) ?_
    refine lv_aload_n hx hb d_law_331 rfl (lv_at hl 0 rfl) ?_
    refine lv_iload hx hb d_law_332 (lv_at hl 4 rfl) ?_
    refine lv_iconst (v := 1) hx hb d_law_334 (by decide) ?_
    refine wy_iadd hx hb (4 * t) 1 d_law_335 ?_
    refine va_sld hx hb hX hbl hbA hW.2.2 (vp_in_nI (by omega) (by omega)) d_law_336 ?_
    refine wy_cvi (y := xs (4 * t + 1)) (by rw [nI_clamp (by omega)]) ?_
    refine X_holiday C hN hK hA (S_ok hS) (xs (4 * t + 1)) hW kw_430 hl.1 (Nat.le_of_ble_eq_true rfl) d_law_337 hf0 (fun H locs hW => ?_)
    refine lv_pop hx hb d_law_340 rfl ?_
    refine lv_aload_n hx hb d_law_341 rfl (lv_at hl 2 rfl) ?_
    refine lv_aload_n hx hb d_law_342 rfl (lv_at hl 0 rfl) ?_
    refine lv_iload hx hb d_law_343 (lv_at hl 4 rfl) ?_
    refine lv_iconst (v := 1) hx hb d_law_345 (by decide) ?_
    refine wy_iadd hx hb (4 * t) 1 d_law_346 ?_
    refine va_sld hx hb hX hbl hbA hW.2.2 (vp_in_nI (by omega) (by omega)) d_law_347 ?_
    refine wy_cvi (y := xs (4 * t + 1)) (by rw [nI_clamp (by omega)]) ?_
    refine M_holiday C hN hK hA (S_mok hS) (xs (4 * t + 1)) hW kw_695 hl.1 (Nat.le_of_ble_eq_true rfl) d_law_348 hf0 (fun H locs hW => ?_)
    refine lv_pop hx hb d_law_351 rfl ?_
    refine lv_goto (tgt := 568) hx hb d_law_352 (by decide) ?_
    exact W.widen (k := cells + 2) (n := slots + 127) (by omega) (by omega) (kk _ _ _ _ _ _ ((s_holiday hS (xs (4 * t + 1))).2) hW (lv_sub hl [0, 1, 2, 3, 4] rfl))
  · refine lv_tableIn (tgt := 355) (off := 316) hx hb d_law_39 (by rw [c_39]; decide) (by rw [c_39]; decide) (by rw [c_39]; rfl) (by decide) ?_
    refine lv_aload_n hx hb d_law_355 rfl (lv_at hl 1 rfl) ?_
    refine lv_aload_n hx hb d_law_356 rfl (lv_at hl 0 rfl) ?_
    refine lv_iload hx hb d_law_357 (lv_at hl 4 rfl) ?_
    refine lv_iconst (v := 1) hx hb d_law_359 (by decide) ?_
    refine wy_iadd hx hb (4 * t) 1 d_law_360 ?_
    refine va_sld hx hb hX hbl hbA hW.2.2 (vp_in_nI (by omega) (by omega)) d_law_361 ?_
    refine wy_cvi (y := xs (4 * t + 1)) (by rw [nI_clamp (by omega)]) ?_
    refine lv_aload_n hx hb d_law_362 rfl (lv_at hl 0 rfl) ?_
    refine lv_iload hx hb d_law_363 (lv_at hl 4 rfl) ?_
    refine lv_iconst (v := 2) hx hb d_law_365 (by decide) ?_
    refine wy_iadd hx hb (4 * t) 2 d_law_366 ?_
    refine va_sld hx hb hX hbl hbA hW.2.2 (vp_in_nI (by omega) (by omega)) d_law_367 ?_
    refine wy_cvi (y := xs (4 * t + 2)) (by rw [nI_clamp (by omega)]) ?_
    refine X_came C hN hK hA (S_ok hS) (xs (4 * t + 1)) (xs (4 * t + 2)) hW kw_439 hl.1 (Nat.le_of_ble_eq_true rfl) d_law_368 hf0 (fun H locs hW => ?_)
    refine lv_pop hx hb d_law_371 rfl ?_
    refine lv_aload_n hx hb d_law_372 rfl (lv_at hl 2 rfl) ?_
    refine lv_aload_n hx hb d_law_373 rfl (lv_at hl 0 rfl) ?_
    refine lv_iload hx hb d_law_374 (lv_at hl 4 rfl) ?_
    refine lv_iconst (v := 1) hx hb d_law_376 (by decide) ?_
    refine wy_iadd hx hb (4 * t) 1 d_law_377 ?_
    refine va_sld hx hb hX hbl hbA hW.2.2 (vp_in_nI (by omega) (by omega)) d_law_378 ?_
    refine wy_cvi (y := xs (4 * t + 1)) (by rw [nI_clamp (by omega)]) ?_
    refine lv_aload_n hx hb d_law_379 rfl (lv_at hl 0 rfl) ?_
    refine lv_iload hx hb d_law_380 (lv_at hl 4 rfl) ?_
    refine lv_iconst (v := 2) hx hb d_law_382 (by decide) ?_
    refine wy_iadd hx hb (4 * t) 2 d_law_383 ?_
    refine va_sld hx hb hX hbl hbA hW.2.2 (vp_in_nI (by omega) (by omega)) d_law_384 ?_
    refine wy_cvi (y := xs (4 * t + 2)) (by rw [nI_clamp (by omega)]) ?_
    refine M_came C hN hK hA (S_mok hS) (xs (4 * t + 1)) (xs (4 * t + 2)) hW kw_747 hl.1 (Nat.le_of_ble_eq_true rfl) d_law_385 hf0 (fun H locs hW => ?_)
    refine lv_pop hx hb d_law_388 rfl ?_
    refine lv_goto (tgt := 568) hx hb d_law_389 (by decide) ?_
    exact W.widen (k := cells + 2) (n := slots + 127) (by omega) (by omega) (kk _ _ _ _ _ _ ((s_came hS (xs (4 * t + 1)) (xs (4 * t + 2))).2) hW (lv_sub hl [0, 1, 2, 3, 4] rfl))
  · refine lv_tableIn (tgt := 392) (off := 353) hx hb d_law_39 (by rw [c_39]; decide) (by rw [c_39]; decide) (by rw [c_39]; rfl) (by decide) ?_
    refine lv_aload_n hx hb d_law_392 rfl (lv_at hl 1 rfl) ?_
    refine lv_aload_n hx hb d_law_393 rfl (lv_at hl 0 rfl) ?_
    refine lv_iload hx hb d_law_394 (lv_at hl 4 rfl) ?_
    refine lv_iconst (v := 1) hx hb d_law_396 (by decide) ?_
    refine wy_iadd hx hb (4 * t) 1 d_law_397 ?_
    refine va_sld hx hb hX hbl hbA hW.2.2 (vp_in_nI (by omega) (by omega)) d_law_398 ?_
    refine wy_cvi (y := xs (4 * t + 1)) (by rw [nI_clamp (by omega)]) ?_
    refine lv_aload_n hx hb d_law_399 rfl (lv_at hl 0 rfl) ?_
    refine lv_iload hx hb d_law_400 (lv_at hl 4 rfl) ?_
    refine lv_iconst (v := 2) hx hb d_law_402 (by decide) ?_
    refine wy_iadd hx hb (4 * t) 2 d_law_403 ?_
    refine va_sld hx hb hX hbl hbA hW.2.2 (vp_in_nI (by omega) (by omega)) d_law_404 ?_
    refine wy_cvi (y := xs (4 * t + 2)) (by rw [nI_clamp (by omega)]) ?_
    refine X_late C hN hK hA (S_ok hS) (xs (4 * t + 1)) (xs (4 * t + 2)) hW kw_443 hl.1 (Nat.le_of_ble_eq_true rfl) d_law_405 hf0 (fun H locs hW => ?_)
    refine lv_pop hx hb d_law_408 rfl ?_
    refine lv_aload_n hx hb d_law_409 rfl (lv_at hl 2 rfl) ?_
    refine lv_aload_n hx hb d_law_410 rfl (lv_at hl 0 rfl) ?_
    refine lv_iload hx hb d_law_411 (lv_at hl 4 rfl) ?_
    refine lv_iconst (v := 1) hx hb d_law_413 (by decide) ?_
    refine wy_iadd hx hb (4 * t) 1 d_law_414 ?_
    refine va_sld hx hb hX hbl hbA hW.2.2 (vp_in_nI (by omega) (by omega)) d_law_415 ?_
    refine wy_cvi (y := xs (4 * t + 1)) (by rw [nI_clamp (by omega)]) ?_
    refine lv_aload_n hx hb d_law_416 rfl (lv_at hl 0 rfl) ?_
    refine lv_iload hx hb d_law_417 (lv_at hl 4 rfl) ?_
    refine lv_iconst (v := 2) hx hb d_law_419 (by decide) ?_
    refine wy_iadd hx hb (4 * t) 2 d_law_420 ?_
    refine va_sld hx hb hX hbl hbA hW.2.2 (vp_in_nI (by omega) (by omega)) d_law_421 ?_
    refine wy_cvi (y := xs (4 * t + 2)) (by rw [nI_clamp (by omega)]) ?_
    refine M_late C hN hK hA (S_mok hS) (xs (4 * t + 1)) (xs (4 * t + 2)) hW kw_751 hl.1 (Nat.le_of_ble_eq_true rfl) d_law_422 hf0 (fun H locs hW => ?_)
    refine lv_pop hx hb d_law_425 rfl ?_
    refine lv_goto (tgt := 568) hx hb d_law_426 (by decide) ?_
    exact W.widen (k := cells + 2) (n := slots + 127) (by omega) (by omega) (kk _ _ _ _ _ _ ((s_late hS (xs (4 * t + 1)) (xs (4 * t + 2))).2) hW (lv_sub hl [0, 1, 2, 3, 4] rfl))
  · refine lv_tableIn (tgt := 429) (off := 390) hx hb d_law_39 (by rw [c_39]; decide) (by rw [c_39]; decide) (by rw [c_39]; rfl) (by decide) ?_
    refine lv_aload_n hx hb d_law_429 rfl (lv_at hl 1 rfl) ?_
    refine lv_aload_n hx hb d_law_430 rfl (lv_at hl 0 rfl) ?_
    refine lv_iload hx hb d_law_431 (lv_at hl 4 rfl) ?_
    refine lv_iconst (v := 1) hx hb d_law_433 (by decide) ?_
    refine wy_iadd hx hb (4 * t) 1 d_law_434 ?_
    refine va_sld hx hb hX hbl hbA hW.2.2 (vp_in_nI (by omega) (by omega)) d_law_435 ?_
    refine wy_cvi (y := xs (4 * t + 1)) (by rw [nI_clamp (by omega)]) ?_
    refine lv_aload_n hx hb d_law_436 rfl (lv_at hl 0 rfl) ?_
    refine lv_iload hx hb d_law_437 (lv_at hl 4 rfl) ?_
    refine lv_iconst (v := 2) hx hb d_law_439 (by decide) ?_
    refine wy_iadd hx hb (4 * t) 2 d_law_440 ?_
    refine va_sld hx hb hX hbl hbA hW.2.2 (vp_in_nI (by omega) (by omega)) d_law_441 ?_
    refine wy_cvi (y := xs (4 * t + 2)) (by rw [nI_clamp (by omega)]) ?_
    refine X_claim C hN hK hA (S_ok hS) (xs (4 * t + 1)) (xs (4 * t + 2)) hW kw_448 hl.1 (Nat.le_of_ble_eq_true rfl) d_law_442 hf0 (fun H locs hW => ?_)
    refine lv_pop hx hb d_law_445 rfl ?_
    refine lv_aload_n hx hb d_law_446 rfl (lv_at hl 2 rfl) ?_
    refine lv_aload_n hx hb d_law_447 rfl (lv_at hl 0 rfl) ?_
    refine lv_iload hx hb d_law_448 (lv_at hl 4 rfl) ?_
    refine lv_iconst (v := 1) hx hb d_law_450 (by decide) ?_
    refine wy_iadd hx hb (4 * t) 1 d_law_451 ?_
    refine va_sld hx hb hX hbl hbA hW.2.2 (vp_in_nI (by omega) (by omega)) d_law_452 ?_
    refine wy_cvi (y := xs (4 * t + 1)) (by rw [nI_clamp (by omega)]) ?_
    refine lv_aload_n hx hb d_law_453 rfl (lv_at hl 0 rfl) ?_
    refine lv_iload hx hb d_law_454 (lv_at hl 4 rfl) ?_
    refine lv_iconst (v := 2) hx hb d_law_456 (by decide) ?_
    refine wy_iadd hx hb (4 * t) 2 d_law_457 ?_
    refine va_sld hx hb hX hbl hbA hW.2.2 (vp_in_nI (by omega) (by omega)) d_law_458 ?_
    refine wy_cvi (y := xs (4 * t + 2)) (by rw [nI_clamp (by omega)]) ?_
    refine M_claim C hN hK hA (S_mok hS) (xs (4 * t + 1)) (xs (4 * t + 2)) hW kw_759 hl.1 (Nat.le_of_ble_eq_true rfl) d_law_459 hf0 (fun H locs hW => ?_)
    refine lv_pop hx hb d_law_462 rfl ?_
    refine lv_goto (tgt := 568) hx hb d_law_463 (by decide) ?_
    exact W.widen (k := cells + 2) (n := slots + 127) (by omega) (by omega) (kk _ _ _ _ _ _ ((s_claim hS (xs (4 * t + 1)) (xs (4 * t + 2))).2) hW (lv_sub hl [0, 1, 2, 3, 4] rfl))
  · refine lv_tableIn (tgt := 466) (off := 427) hx hb d_law_39 (by rw [c_39]; decide) (by rw [c_39]; decide) (by rw [c_39]; rfl) (by decide) ?_
    refine lv_aload_n hx hb d_law_466 rfl (lv_at hl 1 rfl) ?_
    refine lv_aload_n hx hb d_law_467 rfl (lv_at hl 0 rfl) ?_
    refine lv_iload hx hb d_law_468 (lv_at hl 4 rfl) ?_
    refine lv_iconst (v := 1) hx hb d_law_470 (by decide) ?_
    refine wy_iadd hx hb (4 * t) 1 d_law_471 ?_
    refine va_sld hx hb hX hbl hbA hW.2.2 (vp_in_nI (by omega) (by omega)) d_law_472 ?_
    refine wy_cvi (y := xs (4 * t + 1)) (by rw [nI_clamp (by omega)]) ?_
    refine X_print C hN hK hA (S_ok hS) (xs (4 * t + 1)) hW kw_468 hl.1 (Nat.le_of_ble_eq_true rfl) d_law_473 hf0 (fun H locs hW => ?_)
    refine lv_pop hx hb d_law_476 rfl ?_
    refine lv_aload_n hx hb d_law_477 rfl (lv_at hl 2 rfl) ?_
    refine lv_aload_n hx hb d_law_478 rfl (lv_at hl 0 rfl) ?_
    refine lv_iload hx hb d_law_479 (lv_at hl 4 rfl) ?_
    refine lv_iconst (v := 1) hx hb d_law_481 (by decide) ?_
    refine wy_iadd hx hb (4 * t) 1 d_law_482 ?_
    refine va_sld hx hb hX hbl hbA hW.2.2 (vp_in_nI (by omega) (by omega)) d_law_483 ?_
    refine wy_cvi (y := xs (4 * t + 1)) (by rw [nI_clamp (by omega)]) ?_
    refine M_print C hN hK hA (S_mok hS) (xs (4 * t + 1)) hW kw_767 hl.1 (Nat.le_of_ble_eq_true rfl) d_law_484 hf0 (fun H locs hW => ?_)
    refine lv_pop hx hb d_law_487 rfl ?_
    refine lv_goto (tgt := 568) hx hb d_law_488 (by decide) ?_
    exact W.widen (k := cells + 2) (n := slots + 127) (by omega) (by omega) (kk _ _ _ _ _ _ ((s_print hS (xs (4 * t + 1))).2) hW (lv_sub hl [0, 1, 2, 3, 4] rfl))
  · refine lv_tableIn (tgt := 491) (off := 452) hx hb d_law_39 (by rw [c_39]; decide) (by rw [c_39]; decide) (by rw [c_39]; rfl) (by decide) ?_
    refine lv_aload_n hx hb d_law_491 rfl (lv_at hl 1 rfl) ?_
    refine lv_aload_n hx hb d_law_492 rfl (lv_at hl 0 rfl) ?_
    refine lv_iload hx hb d_law_493 (lv_at hl 4 rfl) ?_
    refine lv_iconst (v := 1) hx hb d_law_495 (by decide) ?_
    refine wy_iadd hx hb (4 * t) 1 d_law_496 ?_
    refine va_sld hx hb hX hbl hbA hW.2.2 (vp_in_nI (by omega) (by omega)) d_law_497 ?_
    refine wy_cvi (y := xs (4 * t + 1)) (by rw [nI_clamp (by omega)]) ?_
    refine X_at C hN hK hA (S_ok hS) (xs (4 * t + 1)) hW kw_472 hl.1 (Nat.le_of_ble_eq_true rfl) d_law_498 hf0 (fun H locs hW => ?_)
    refine lv_pop hx hb d_law_501 rfl ?_
    refine lv_aload_n hx hb d_law_502 rfl (lv_at hl 2 rfl) ?_
    refine lv_aload_n hx hb d_law_503 rfl (lv_at hl 0 rfl) ?_
    refine lv_iload hx hb d_law_504 (lv_at hl 4 rfl) ?_
    refine lv_iconst (v := 1) hx hb d_law_506 (by decide) ?_
    refine wy_iadd hx hb (4 * t) 1 d_law_507 ?_
    refine va_sld hx hb hX hbl hbA hW.2.2 (vp_in_nI (by omega) (by omega)) d_law_508 ?_
    refine wy_cvi (y := xs (4 * t + 1)) (by rw [nI_clamp (by omega)]) ?_
    refine M_at C hN hK hA (S_mok hS) (xs (4 * t + 1)) hW kw_771 hl.1 (Nat.le_of_ble_eq_true rfl) d_law_509 hf0 (fun H locs hW => ?_)
    refine lv_pop hx hb d_law_512 rfl ?_
    refine lv_goto (tgt := 568) hx hb d_law_513 (by decide) ?_
    exact W.widen (k := cells + 2) (n := slots + 127) (by omega) (by omega) (kk _ _ _ _ _ _ ((s_at hS (xs (4 * t + 1))).2) hW (lv_sub hl [0, 1, 2, 3, 4] rfl))
  · refine lv_tableIn (tgt := 516) (off := 477) hx hb d_law_39 (by rw [c_39]; decide) (by rw [c_39]; decide) (by rw [c_39]; rfl) (by decide) ?_
    refine lv_aload_n hx hb d_law_516 rfl (lv_at hl 1 rfl) ?_
    refine lv_aload_n hx hb d_law_517 rfl (lv_at hl 0 rfl) ?_
    refine lv_iload hx hb d_law_518 (lv_at hl 4 rfl) ?_
    refine lv_iconst (v := 1) hx hb d_law_520 (by decide) ?_
    refine wy_iadd hx hb (4 * t) 1 d_law_521 ?_
    refine va_sld hx hb hX hbl hbA hW.2.2 (vp_in_nI (by omega) (by omega)) d_law_522 ?_
    refine wy_cvi (y := xs (4 * t + 1)) (by rw [nI_clamp (by omega)]) ?_
    refine lv_aload_n hx hb d_law_523 rfl (lv_at hl 0 rfl) ?_
    refine lv_iload hx hb d_law_524 (lv_at hl 4 rfl) ?_
    refine lv_iconst (v := 2) hx hb d_law_526 (by decide) ?_
    refine wy_iadd hx hb (4 * t) 2 d_law_527 ?_
    refine va_sld hx hb hX hbl hbA hW.2.2 (vp_in_nI (by omega) (by omega)) d_law_528 ?_
    refine wy_cvi (y := xs (4 * t + 2)) (by rw [nI_clamp (by omega)]) ?_
    refine lv_aload_n hx hb d_law_529 rfl (lv_at hl 0 rfl) ?_
    refine lv_iload hx hb d_law_530 (lv_at hl 4 rfl) ?_
    refine lv_iconst (v := 3) hx hb d_law_532 (by decide) ?_
    refine wy_iadd hx hb (4 * t) 3 d_law_533 ?_
    refine va_sld hx hb hX hbl hbA hW.2.2 (vp_in_nI (by omega) (by omega)) d_law_534 ?_
    refine wy_cvi (y := xs (4 * t + 3)) (by rw [nI_clamp (by omega)]) ?_
    refine lv_aload_n hx hb d_law_535 rfl (lv_at hl 3 rfl) ?_
    refine X_yearly C hN hK hA hst hE9 (S_ok hS) (xs (4 * t + 1)) (xs (4 * t + 2)) (xs (4 * t + 3)) hW kw_476 hl.1 (Nat.le_of_ble_eq_true rfl) d_law_536 hf1 (fun H locs hW => ?_)
    refine lv_istore (lv' := [(5, .int ((xs_yearly x (xs (4 * t + 1)) (xs (4 * t + 2)) (xs (4 * t + 3))).1)), (0, .ref b), (1, .ref (A 0)), (2, .ref (A 16)), (3, .ref (A 33)), (4, .int (nI (4 * t)))]) hx hb d_law_539 hl (by decide) rfl (fun ls hl => ?_)
    refine lv_aload_n hx hb d_law_541 rfl (lv_at hl 3 rfl) ?_
    refine lv_aload_n hx hb d_law_542 rfl (lv_at hl 1 rfl) ?_
    refine lv_iload hx hb d_law_543 (lv_at hl 5 rfl) ?_
    refine lv_iconst (v := 1) hx hb d_law_545 (by decide) ?_
    refine wy_iadd hx hb (4 * t) 1 d_law_546 ?_
    refine va_sld hx hb hX hbl hbA hW.2.2 (vp_in_nI (by omega) (by omega)) d_law_547 ?_
    refine wy_cvi (y := xs (4 * t + 1)) (by rw [nI_clamp (by omega)]) ?_
    refine lv_aload_n hx hb d_law_548 rfl (lv_at hl 1 rfl) ?_
    refine lv_iload hx hb d_law_549 (lv_at hl 5 rfl) ?_
    refine lv_iconst (v := 2) hx hb d_law_551 (by decide) ?_
    refine wy_iadd hx hb (4 * t) 2 d_law_552 ?_
    refine va_sld hx hb hX hbl hbA hW.2.2 (vp_in_nI (by omega) (by omega)) d_law_553 ?_
    refine wy_cvi (y := xs (4 * t + 2)) (by rw [nI_clamp (by omega)]) ?_
    refine lv_aload_n hx hb d_law_554 rfl (lv_at hl 1 rfl) ?_
    refine lv_iload hx hb d_law_555 (lv_at hl 5 rfl) ?_
    refine lv_iconst (v := 3) hx hb d_law_557 (by decide) ?_
    refine wy_iadd hx hb (4 * t) 3 d_law_558 ?_
    refine va_sld hx hb hX hbl hbA hW.2.2 (vp_in_nI (by omega) (by omega)) d_law_559 ?_
    refine wy_cvi (y := xs (4 * t + 3)) (by rw [nI_clamp (by omega)]) ?_
    refine M_yearly C hN hK hA (S_mok hS) (xs (4 * t + 1)) (xs (4 * t + 2)) (xs (4 * t + 3)) hW kw_775 hl.1 (Nat.le_of_ble_eq_true rfl) d_law_560 hf1 (fun H locs hW => ?_)
    refine lv_istore (lv' := [(6, .int ((ms_yearly u (xs (4 * t + 1)) (xs (4 * t + 2)) (xs (4 * t + 3))).1)), (5, .int ((xs_yearly x (xs (4 * t + 1)) (xs (4 * t + 2)) (xs (4 * t + 3))).1)), (0, .ref b), (1, .ref (A 0)), (2, .ref (A 16)), (3, .ref (A 33)), (4, .int (nI (4 * t)))]) hx hb d_law_563 hl (by decide) rfl (fun ls hl => ?_)
    refine lv_goto (tgt := 568) hx hb d_law_565 (by decide) ?_
    exact W.widen (k := cells + 2) (n := slots + 127) (by omega) (by omega) (kk _ _ _ _ _ _ ((s_yearly hS (xs (4 * t + 1)) (xs (4 * t + 2)) (xs (4 * t + 3))).2.2) hW (lv_sub hl [2, 3, 4, 5, 6] rfl))
