/-! the reader's String constants: 0 every, 1 days, 2 weeks, 3 months, 4 skip, 5 joined, 6 volume, 7 restart -/
def sv_txt (i : Nat) : String := match i with
  | 0 => "every"
  | 1 => "days"
  | 2 => "weeks"
  | 3 => "months"
  | 4 => "skip"
  | 5 => "joined"
  | 6 => "volume"
  | _ => "restart"
def sv_ix (i : Nat) : Nat := match i with
  | 0 => 62
  | 1 => 75
  | 2 => 77
  | 3 => 79
  | 4 => 81
  | 5 => 89
  | 6 => 90
  | _ => 91
def sv_byt (i : Nat) : List Int32 := match i with
  | 0 => [101, 118, 101, 114, 121]
  | 1 => [100, 97, 121, 115]
  | 2 => [119, 101, 101, 107, 115]
  | 3 => [109, 111, 110, 116, 104, 115]
  | 4 => [115, 107, 105, 112]
  | 5 => [106, 111, 105, 110, 101, 100]
  | 6 => [118, 111, 108, 117, 109, 101]
  | _ => [114, 101, 115, 116, 97, 114, 116]
def sv_len (i : Nat) : Nat := (sv_byt i).length
def sv_w (i j : Nat) : Int32 := (sv_byt i).getD j 0
theorem sv_len_le (i : Nat) : sv_len i ≤ 7 := by
  unfold sv_len sv_byt
  split <;> simp
theorem sv_w_in (i j : Nat) : ∃ k : Nat, k < 128 ∧ sv_w i j = nI k := by
  have h : ∀ x ∈ sv_byt i, ∃ k : Nat, k < 128 ∧ x = nI k := by
    intro x hx
    refine ⟨x.toNatClampNeg, ?_⟩
    unfold sv_byt at hx
    split at hx <;> (simp only [List.mem_cons, List.not_mem_nil, or_false] at hx; rcases hx with rfl | rfl | rfl | rfl | rfl | rfl | rfl) <;> decide
  unfold sv_w
  rw [List.getD_eq_getElem?_getD]
  cases hh : (sv_byt i)[j]? with
  | none => exact ⟨0, by decide, rfl⟩
  | some x => exact h x (List.mem_of_getElem? hh)
theorem sv_and (i j : Nat) : sv_w i j &&& 255 = sv_w i j := by
  obtain ⟨k, hk, e⟩ := sv_w_in i j
  rw [e, pk_andN (by omega) 8 (by decide), Nat.mod_eq_of_lt (by omega)]
theorem sv_chr (i j : Nat) : ((sv_w i j).toUInt32 % 65536).toInt32 = sv_w i j := by
  obtain ⟨k, hk, e⟩ := sv_w_in i j
  rw [e, pk_char, pk_tn (by omega), Nat.mod_eq_of_lt (by omega)]
theorem sv_nar (i j : Nat) : narrow .char (.int (sv_w i j)) = .int (sv_w i j) := by
  obtain ⟨k, hk, e⟩ := sv_w_in i j
  rw [e]
  exact (pk_charN (by omega)).1
def sv_at (a v L : Nat) (w : Nat → Int32) (A : Nat → Prop) (U : State) (H : Heap) : Prop := va_O "java/lang/String" a A U H ∧ va_OF "java/lang/String" "coder" "B" (.int 0) a A U H ∧ va_OF "java/lang/String" "value" "[B" (.ref v) a A U H ∧ va_T .byte v L (fun j => .int (w j)) A U H
def sv_E (ad av : Nat → Nat) (A : Nat → Prop) (U : State) (H : Heap) : Prop := va_Z "java/lang/String" "COMPACT_STRINGS" "Z" (.int 1) A U H ∧ va_Zq "jdk/internal/util/Preconditions" "SIOOBE_FORMATTER" "Ljava/util/function/BiFunction;" A U H ∧ ∀ i, i < 8 → sv_at (ad i) (av i) (sv_len i) (sv_w i) A U H ∧ vk_R "PatternText$PatternReader" (sv_ix i) (sv_txt i) (ad i) U
theorem sv_E.same {ad av : Nat → Nat} {A : Nat → Prop} {u U : State} {H : Heap} (h : u.vm = U.vm) (hE : sv_E ad av A u H) : sv_E ad av A U H := by
  have hal : u.vm.Alike U.vm := by rw [h]; exact Vm.Alike.refl _
  refine ⟨hE.1.moved hal, hE.2.1.moved hal, fun i hi => ?_⟩
  obtain ⟨⟨h1, h2, h3, h4⟩, h5⟩ := hE.2.2 i hi
  exact ⟨⟨h1.moved hal, h2.moved hal, h3.moved hal, h4.moved hal⟩, vk_R.same h.symm h5⟩
theorem sv_E.at {ad av : Nat → Nat} {A B : Nat → Prop} {s U : State} {H : Heap} {locs : List Loc} (hE : sv_E ad av A s s.heap) (hS : va_S A s.heap H locs) (hAB : ∀ q, B q → A q) (hW : s.WarmedH U.vm) (hU : U.heap = H) : sv_E ad av B U U.heap := by
  rw [hU]
  refine ⟨((hE.1.kept hS.2.1).narrow hAB).moved hW.alike, ((hE.2.1.kept hS.2.1).narrow hAB).moved hW.alike, fun i hi => ?_⟩
  obtain ⟨⟨h1, h2, h3, h4⟩, h5⟩ := hE.2.2 i hi
  exact ⟨⟨((h1.kept hS.2.1).narrow hAB).moved hW.alike, ((h2.kept hS.2.1).narrow hAB).moved hW.alike, ((h3.kept hS.2.1).narrow hAB).moved hW.alike, ((h4.kept hS.2.1).narrow hAB).moved hW.alike⟩, h5.warm hW⟩
abbrev wy_RE (D : va_G) (cl : List vw_C) (ws : va_W) (tys : List (ClassId × FieldType)) (ad av : Nat → Nat) (A : Nat → Prop) (U : State) : Prop := va_P D cl ws U.heap ∧ va_K D cl tys U ∧ ga_N U ∧ sv_E ad av A U U.heap
abbrev wy_ME (D : va_G) (cl : List vw_C) (ws : va_W) (tys : List (ClassId × FieldType)) (sz : Nat) (ad av : Nat → Nat) (U : State) : Prop := U.heap.size = sz ∧ va_P D cl ws U.heap ∧ va_K D cl tys U ∧ ga_N U ∧ sv_E ad av (va_A ws sz) U U.heap ∧ va_D (fun _ => True) ws
theorem wy_RE_blind {D : va_G} {cl : List vw_C} {ws : va_W} {tys : List (ClassId × FieldType)} {ad av : Nat → Nat} {A : Nat → Prop} {vs : List Value} : FrameBlind (va_Pc vs (wy_RE D cl ws tys ad av A)) := fun a U g mk q => by
  obtain ⟨q0, qP, qK, qN, qE⟩ := q
  exact ⟨q0, qP, va_K.moved (u := U) (U := U.calling g mk a) (Vm.Alike.refl U.vm) qK, ga_N.same (u := U) (U := U.calling g mk a) rfl qN, sv_E.same (u := U) (U := U.calling g mk a) rfl qE⟩
theorem wy_ME_blind {D : va_G} {cl : List vw_C} {ws : va_W} {tys : List (ClassId × FieldType)} {sz : Nat} {ad av : Nat → Nat} {vs : List Value} : FrameBlind (va_Pc vs (wy_ME D cl ws tys sz ad av)) := fun a U g mk q => by
  obtain ⟨q0, q1, qP, qK, qN, qE, qD⟩ := q
  exact ⟨q0, q1, qP, va_K.moved (u := U) (U := U.calling g mk a) (Vm.Alike.refl U.vm) qK, ga_N.same (u := U) (U := U.calling g mk a) rfl qN, sv_E.same (u := U) (U := U.calling g mk a) rfl qE, qD⟩
section SV
variable {s : State} {H : Heap} {locs : List Loc} {D : va_G} {cl : List vw_C} {A : Nat → Prop} {tys : List (ClassId × FieldType)} {ws : va_W} {ad av : Nat → Nat}
theorem wy_preSE {vs : List Value} (hP : va_P D cl ws H) (hK : va_K D cl tys s) (hN : ga_N s) (hE : sv_E ad av A s s.heap) (hS : va_S A s.heap H locs) : PreS s H (va_Pc vs (wy_RE D cl ws tys ad av A)) vs :=
  ⟨wy_RE_blind, fun U hU hW => ⟨rfl, by rw [hU]; exact hP, va_K.moved hW.alike hK, hN.warm hW, hE.at hS (fun _ h => h) hW hU⟩⟩
theorem wy_preTE {vs : List Value} (i : Nat) (hi : i < 8) (hP : va_P D cl ws H) (hK : va_K D cl tys s) (hN : ga_N s) (hE : sv_E ad av A s s.heap) (hS : va_S A s.heap H locs) : PreV s H "java/lang/String" (ad i) (va_Pc (.ref (ad i) :: vs) (wy_RE D cl ws tys ad av A)) vs :=
  ⟨wy_RE_blind, by
    obtain ⟨cell, h1, h2, h3, -⟩ := (hE.2.2 i hi).1.1.kept hS.2.1
    exact ⟨cell, h1, h2, h3⟩, fun U hU hW => ⟨rfl, by rw [hU]; exact hP, va_K.moved hW.alike hK, hN.warm hW, hE.at hS (fun _ h => h) hW hU⟩⟩
theorem wy_mreVE {vs : List Value} {B : Nat → Prop} {C : String} {b ci : Nat} {q : vw_C} {fs : List Value} (q0 : Nat) (hP : va_P D cl ws H) (hK : va_K D cl tys s) (hN : ga_N s) (hD : va_D B ws) (hE : sv_E ad av A s s.heap) (hS : va_S A s.heap H locs) (hF : ∀ q, va_A ws H.size q → A q) (hc : cl[ci]? = some q) (hC : q.1 = C) (he : ws[q0]? = some (b, .inr (ci, fs))) : PreV s H C b (va_Pc (.ref b :: vs) (wy_ME D cl ws tys H.size ad av)) vs :=
  ⟨wy_ME_blind, by subst hC; exact va_recv hK hP hc he, fun U hU hW => ⟨rfl, by rw [hU], by rw [hU]; exact hP, va_K.moved hW.alike hK, hN.warm hW, hE.at hS hF hW hU, hD.weaken (fun _ _ _ _ => trivial)⟩⟩
end SV
