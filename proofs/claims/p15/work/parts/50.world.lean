/-! the whole world of the law: class, reference, the law's own array, the pool of patterns -/
abbrev wz_R : Type := Int32 × Int32 × Int32 × Int32 × Int32 × Int32 × Bool
/-- a pattern: its cell, its signs' cell, how many signs, the signs, step, months left out, joined, volume, restart -/
abbrev wz_Pr : Type := Nat × Nat × Nat × (Nat → Int32) × Nat × Int32 × Nat × Nat × Bool
/-- the class: signs collected, the reader's own, patterns, what was printed, holidays, the list -/
abbrev wz_X : Type := Nat × (Nat → Int32) × wz_R × List wz_Pr × Option wz_Pr × Nat × (Nat → Int32) × li_T
/-- the reference: thrown, n, signs, place, wrong, ks km kj kv kr kx kz, cn, holidays, the list, printed -/
abbrev wz_M : Type := Int32 × Nat × (Nat → Int32) × Int32 × Int32 × (Nat → Int32) × (Nat → Int32) × (Nat → Int32) × (Nat → Int32) × (Nat → Int32) × (Nat → Int32) × (Nat → Int32) × Nat × Nat × (Nat → Int32) × mo_T × (Nat → Int32) × Nat
abbrev wx_P (x : wz_X) : List wz_Pr := x.2.2.2.1
abbrev wx_L (x : wz_X) : li_T := x.2.2.2.2.2.2.2
def wz_pf (P : List wz_Pr) : Nat → Option Nat := fun k => (P[k]?).map (fun r => r.1)
def wz_pv (o : Option wz_Pr) : Value := match o with
  | none => .null
  | some r => .ref r.1
def wz_pc (cI : ClassId) (k : Nat) (r : wz_Pr) : va_W := match r with
  | (pa, ps, pn, px, sd, mo, jo, vo, re) => [(pa, .inr (2, [.int (nI k), .ref ps, .int (nI sd), .int mo, .int (nI jo), .int (nI vo), .int (bo_I re)])), (ps, .inl (cI, pn, .inl px))]
def wz_pl (cI : ClassId) : Nat → List wz_Pr → va_W
  | _, [] => []
  | k, r :: rs => wz_pc cI k r ++ wz_pl cI (k + 1) rs
theorem wz_pl_push (cI : ClassId) (r : wz_Pr) : ∀ (P : List wz_Pr) (k : Nat), wz_pl cI k (P ++ [r]) = wz_pl cI k P ++ wz_pc cI (k + P.length) r := by
  intro P
  induction P with
  | nil => intro k; show wz_pc cI k r ++ [] = [] ++ wz_pc cI (k + 0) r; simp
  | cons a P ih =>
    intro k
    show wz_pc cI k a ++ wz_pl cI (k + 1) (P ++ [r]) = (wz_pc cI k a ++ wz_pl cI (k + 1) P) ++ wz_pc cI (k + (P.length + 1)) r
    rw [ih (k + 1), List.append_assoc, Nat.add_right_comm, Nat.add_assoc k P.length 1]
theorem wz_pl_take (cI : ClassId) : ∀ (P : List wz_Pr) (i k : Nat) (r : wz_Pr), P[k]? = some r → ∃ rest, (wz_pl cI i P).Perm (wz_pc cI (i + k) r ++ rest) := by
  intro P
  induction P with
  | nil => intro i k r h; simp at h
  | cons a P ih =>
    intro i k r h
    cases k with
    | zero =>
      have e : a = r := by simpa using h
      subst e
      exact ⟨wz_pl cI (i + 1) P, List.Perm.refl _⟩
    | succ k =>
      obtain ⟨rest, hp⟩ := ih (i + 1) k r (by simpa using h)
      refine ⟨wz_pc cI i a ++ rest, ?_⟩
      show (wz_pc cI i a ++ wz_pl cI (i + 1) P).Perm (wz_pc cI (i + (k + 1)) r ++ (wz_pc cI i a ++ rest))
      rw [show i + (k + 1) = i + 1 + k by omega]
      refine (hp.append_left _).trans ?_
      rw [← List.append_assoc, ← List.append_assoc]
      exact List.perm_append_comm.append_right _
theorem wz_P_mem {D : va_G} {cl : List vw_C} {ws : va_W} {H : Heap} : va_P D cl ws H ↔ ∀ q ∈ ws, va_at D cl q H :=
  ⟨fun h q hq => by obtain ⟨k, hk⟩ := List.getElem?_of_mem hq; exact h k q hk, fun h k q hk => h q (List.mem_of_getElem? hk)⟩
theorem wz_P_perm {D : va_G} {cl : List vw_C} {ws ws' : va_W} {H : Heap} (hp : ws.Perm ws') (h : va_P D cl ws H) : va_P D cl ws' H :=
  wz_P_mem.mpr (fun q hq => wz_P_mem.mp h q (hp.mem_iff.mpr hq))
theorem wz_D_nd {A : Nat → Prop} {ws : va_W} : va_D A ws ↔ (ws.map (fun q => q.1)).Nodup ∧ ∀ q ∈ ws, A q.1 := by
  constructor
  · intro h
    refine ⟨?_, fun q hq => by obtain ⟨k, hk⟩ := List.getElem?_of_mem hq; exact h.2 k q hk⟩
    unfold List.Nodup
    rw [List.pairwise_iff_getElem]
    intro i j hi hj hij e
    rw [List.length_map] at hi hj
    rw [List.getElem_map, List.getElem_map] at e
    exact absurd (h.1 i j _ _ (List.getElem?_eq_getElem hi) (List.getElem?_eq_getElem hj) e) (by omega)
  · intro h
    refine ⟨fun i j p q hi hj e => ?_, fun k q hk => h.2 q (List.mem_of_getElem? hk)⟩
    have hn := h.1
    unfold List.Nodup at hn
    rw [List.pairwise_iff_getElem] at hn
    obtain ⟨li, ei⟩ := List.getElem?_eq_some_iff.mp hi
    obtain ⟨lj, ej⟩ := List.getElem?_eq_some_iff.mp hj
    rcases Nat.lt_trichotomy i j with hlt | heq | hgt
    · exact absurd (by rw [List.getElem_map, List.getElem_map, ei, ej]; exact e) (hn i j (by rw [List.length_map]; exact li) (by rw [List.length_map]; exact lj) hlt)
    · exact heq
    · exact absurd (by rw [List.getElem_map, List.getElem_map, ei, ej]; exact e.symm) (hn j i (by rw [List.length_map]; exact lj) (by rw [List.length_map]; exact li) hgt)
theorem wz_D_perm {A : Nat → Prop} {ws ws' : va_W} (hp : ws.Perm ws') (h : va_D A ws) : va_D A ws' :=
  wz_D_nd.mpr ⟨(hp.map _).nodup_iff.mp (wz_D_nd.mp h).1, fun q hq => (wz_D_nd.mp h).2 q (hp.mem_iff.mpr hq)⟩
theorem wz_focus {X : va_W} {cI : ClassId} {P : List wz_Pr} {k : Nat} {r : wz_Pr} (h : P[k]? = some r) : ∃ rest, ∀ Y : va_W, (Y ++ wz_pl cI 0 P).Perm ((Y ++ wz_pc cI k r) ++ rest) := by
  obtain ⟨rest, hp⟩ := wz_pl_take cI P 0 k r h
  rw [Nat.zero_add] at hp
  exact ⟨rest, fun Y => by rw [List.append_assoc]; exact hp.append_left _⟩
theorem wz_app {X pl cx : va_W} {is : List Nat} (h : is.map (fun i => X[i]?) = cx.map some) : is.map (fun i => (X ++ pl)[i]?) = cx.map some := by
  rw [← h]
  apply List.map_congr_left
  intro i hi
  have hm : X[i]? ∈ is.map (fun i => X[i]?) := List.mem_map.mpr ⟨i, hi, rfl⟩
  rw [h] at hm
  obtain ⟨q, -, e⟩ := List.mem_map.mp hm
  obtain ⟨hl, -⟩ := List.getElem?_eq_some_iff.mp e.symm
  exact List.getElem?_append_left hl
def wz_get (X : va_W) (is : List Nat) : va_W := is.map (fun i => (X[i]?).getD (0, .inr (0, [])))
section WZC
variable {p : Program} {l : Launch} {e : Env} {R : Room} {s : State} {m : MethodId} {args : Array Value} {below : List Frame} {meth : Method} {c : Code} {H : Heap} {locs : List Loc} {cells slots : Nat} {Q : State → Prop}
variable {pc : Nat} {ls : Array Slot} {rest st0 : List Value} {a : Array Value} {A0 : Nat → Prop} {H0 : Heap} {mc ms : Nat} {D : va_G} {cl : List vw_C} {tys : List (ClassId × FieldType)} {X X1 cx w1 pl : va_W}
theorem wz_calli {rv : Int32} (hr : va_Run p l e R s m args below meth c H locs cells slots mc ms (F0 m pc ls st0) rest (va_Qi (fun (r : Int32) (_ : Unit) => r = rv) (fun _ => wy_N D cl tys (va_A cx H.size) w1) (va_A cx H.size) a) (va_A cx H.size)) (hP : va_P D cl (X ++ pl) H) (hD : va_D A0 (X ++ pl)) (hS : va_S A0 H0 H locs) (hA : ∀ q, H0.size ≤ q → A0 q)
    (isC isR isN : List Nat) (hC : isC.map (fun i => X[i]?) = cx.map some) (hR : isR.map (fun i => X[i]?) = (wz_get X isR).map some) (hn : va_nd isR = true) (hdis : ∀ i ∈ isR, i ∉ isC) (hnn : va_nd isN = true) (hN : isN.map (fun i => (wz_get X isR ++ w1)[i]?) = X1.map some)
    (kk : ∀ (H1 : Heap) (locs1 : List Loc), va_P D cl (X1 ++ pl) H1 → va_D A0 (X1 ++ pl) → va_S A0 H0 H1 locs1 → W p l e R s m args below meth c H1 locs1 (cells + mc) (slots + ms) Q (F0 m (pc + 3) ls (.int rv :: rest))) : W p l e R s m args below meth c H locs cells slots Q (F0 m pc ls st0) := by
  have hFc := va_free (wc := cx) hD hS hA isC (wz_app hC)
  refine va_calli hr hS (fun q _ h => hFc q h) hFc (fun r u t H1 locs1 ht hvm hw hB hz1 hk1 hS1 => ?_)
  obtain ⟨hP1, hK1, hD1⟩ := hB
  rw [ht] at hP1
  obtain ⟨hP2, hD2⟩ := va_joinQ (wr := wz_get X isR) (w1 := w1) hP hD isC isR hC hR hn hdis hk1 hFc hP1 hD1
  subst hw
  exact kk H1 locs1 (hP2.part isN hN) (hD2.part isN hnn hN) hS1
theorem wz_callv (hr : va_Run p l e R s m args below meth c H locs cells slots mc ms (F0 m pc ls st0) rest (va_Qv (fun (_ : Unit) => True) (fun _ => wy_N D cl tys (va_A cx H.size) w1) (va_A cx H.size) a) (va_A cx H.size)) (hP : va_P D cl (X ++ pl) H) (hD : va_D A0 (X ++ pl)) (hS : va_S A0 H0 H locs) (hA : ∀ q, H0.size ≤ q → A0 q)
    (isC isR isN : List Nat) (hC : isC.map (fun i => X[i]?) = cx.map some) (hR : isR.map (fun i => X[i]?) = (wz_get X isR).map some) (hn : va_nd isR = true) (hdis : ∀ i ∈ isR, i ∉ isC) (hnn : va_nd isN = true) (hN : isN.map (fun i => (wz_get X isR ++ w1)[i]?) = X1.map some)
    (kk : ∀ (H1 : Heap) (locs1 : List Loc), va_P D cl (X1 ++ pl) H1 → va_D A0 (X1 ++ pl) → va_S A0 H0 H1 locs1 → W p l e R s m args below meth c H1 locs1 (cells + mc) (slots + ms) Q (F0 m (pc + 3) ls rest)) : W p l e R s m args below meth c H locs cells slots Q (F0 m pc ls st0) := by
  have hFc := va_free (wc := cx) hD hS hA isC (wz_app hC)
  refine va_callv hr hS (fun q _ h => hFc q h) hFc (fun u t H1 locs1 ht hvm hw hB hz1 hk1 hS1 => ?_)
  obtain ⟨hP1, hK1, hD1⟩ := hB
  rw [ht] at hP1
  obtain ⟨hP2, hD2⟩ := va_joinQ (wr := wz_get X isR) (w1 := w1) hP hD isC isR hC hR hn hdis hk1 hFc hP1 hD1
  exact kk H1 locs1 (hP2.part isN hN) (hD2.part isN hnn hN) hS1
theorem wz_calll {rv : Int64} (hr : va_Run p l e R s m args below meth c H locs cells slots mc ms (F0 m pc ls st0) rest (va_Ql (fun (r : Int64) (_ : Unit) => r = rv) (fun _ => wy_N D cl tys (va_A cx H.size) w1) (va_A cx H.size) a) (va_A cx H.size)) (hP : va_P D cl (X ++ pl) H) (hD : va_D A0 (X ++ pl)) (hS : va_S A0 H0 H locs) (hA : ∀ q, H0.size ≤ q → A0 q)
    (isC isR isN : List Nat) (hC : isC.map (fun i => X[i]?) = cx.map some) (hR : isR.map (fun i => X[i]?) = (wz_get X isR).map some) (hn : va_nd isR = true) (hdis : ∀ i ∈ isR, i ∉ isC) (hnn : va_nd isN = true) (hN : isN.map (fun i => (wz_get X isR ++ w1)[i]?) = X1.map some)
    (kk : ∀ (H1 : Heap) (locs1 : List Loc), va_P D cl (X1 ++ pl) H1 → va_D A0 (X1 ++ pl) → va_S A0 H0 H1 locs1 → W p l e R s m args below meth c H1 locs1 (cells + mc) (slots + ms) Q (F0 m (pc + 3) ls (.long rv :: rest))) : W p l e R s m args below meth c H locs cells slots Q (F0 m pc ls st0) := by
  have hFc := va_free (wc := cx) hD hS hA isC (wz_app hC)
  refine va_calll hr hS (fun q _ h => hFc q h) hFc (fun r u t H1 locs1 ht hvm hw hB hz1 hk1 hS1 => ?_)
  obtain ⟨hP1, hK1, hD1⟩ := hB
  rw [ht] at hP1
  obtain ⟨hP2, hD2⟩ := va_joinQ (wr := wz_get X isR) (w1 := w1) hP hD isC isR hC hR hn hdis hk1 hFc hP1 hD1
  subst hw
  exact kk H1 locs1 (hP2.part isN hN) (hD2.part isN hnn hN) hS1
/-- a call that makes cells and answers a number -/
theorem wz_callni {rv : Int32} {S : Type} {w2 : S → va_W} {ty1 : S → List (ClassId × FieldType)} (hr : va_Run p l e R s m args below meth c H locs cells slots mc ms (F0 m pc ls st0) rest (va_Qi (fun (r : Int32) (_ : S) => r = rv) (fun u => wy_N D cl (ty1 u) (va_A cx H.size) (w2 u)) (va_A cx H.size) a) (va_A cx H.size)) (hP : va_P D cl (X ++ pl) H) (hD : va_D A0 (X ++ pl)) (hS : va_S A0 H0 H locs) (hA : ∀ q, H0.size ≤ q → A0 q)
    (isC isR : List Nat) (hC : isC.map (fun i => X[i]?) = cx.map some) (hR : isR.map (fun i => X[i]?) = (wz_get X isR).map some) (hn : va_nd isR = true) (hdis : ∀ i ∈ isR, i ∉ isC)
    (kk : ∀ (u : S) (H1 : Heap) (locs1 : List Loc), va_P D cl ((wz_get X isR ++ w2 u) ++ pl) H1 → va_D A0 ((wz_get X isR ++ w2 u) ++ pl) → va_S A0 H0 H1 locs1 → W p l e R s m args below meth c H1 locs1 (cells + mc) (slots + ms) Q (F0 m (pc + 3) ls (.int rv :: rest))) : W p l e R s m args below meth c H locs cells slots Q (F0 m pc ls st0) := by
  have hFc := va_free (wc := cx) hD hS hA isC (wz_app hC)
  refine va_calli hr hS (fun q _ h => hFc q h) hFc (fun r u t H1 locs1 ht hvm hw hB hz1 hk1 hS1 => ?_)
  obtain ⟨hP1, hK1, hD1⟩ := hB
  rw [ht] at hP1
  obtain ⟨hP2, hD2⟩ := va_joinQ (wr := wz_get X isR) (w1 := w2 u) hP hD isC isR hC hR hn hdis hk1 hFc hP1 hD1
  subst hw
  exact kk u H1 locs1 hP2 hD2 hS1
end WZC
