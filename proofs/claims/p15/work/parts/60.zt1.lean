/-! a method of the class that throws, and the law's method that catches it -/
abbrev xt_X : String := "java/lang/ArithmeticException"
abbrev xt_up : List String := ["java/lang/RuntimeException", "java/lang/Exception"]
def xt_face : List Cond := [.declares (Bundle.initS "java/lang/RuntimeException"), .declares (Bundle.initS "java/lang/Exception"), .declares (Bundle.initS Bundle.tN), .castable xt_X xt_X]
def xt_stat : List Cond := [.laysStatic Bundle.tN "UNASSIGNED_STACK" Bundle.steD, .laysStatic Bundle.tN "SUPPRESSED_SENTINEL" Bundle.listD, .isRef (.static Bundle.tN "UNASSIGNED_STACK" Bundle.steD), .isRef (.static Bundle.tN "SUPPRESSED_SENTINEL" Bundle.listD)]
theorem xt_split : ∀ w ∈ Bundle.ownAtoms "PatternText" 141 xt_X xt_up, w ∈ ga_tbl ∨ w ∈ xt_face ∨ w ∈ xt_stat := by decide +kernel
theorem xt_face_f : ∀ w ∈ xt_face, w.faceAtom = true := by decide +kernel
theorem xt_face_t : ∀ w ∈ xt_face, w.onTables = true := by decide +kernel
theorem xt_face_in : ∀ w ∈ xt_face, w ∈ lw_tbl := by decide +kernel
theorem xt_stat_1 : Cond.laysStatic Bundle.tN "UNASSIGNED_STACK" Bundle.steD ∈ lw_tbl ∧ Cond.laysStatic Bundle.tN "SUPPRESSED_SENTINEL" Bundle.listD ∈ lw_tbl ∧ Cond.stringRef "PatternText" 139 "each is 0" ∈ lw_tbl := by decide +kernel
theorem xt_stat_2 : Cond.isRef (.static Bundle.tN "UNASSIGNED_STACK" Bundle.steD) ∈ st_all ∧ Cond.isRef (.static Bundle.tN "SUPPRESSED_SENTINEL" Bundle.listD) ∈ st_all ∧ Cond.exactly (.string "PatternText" 139) "java/lang/String" ∈ st_all := by decide +kernel
/-- a static field that holds a reference, its cell outside A -/
def xt_L (C n d : String) (A : Nat → Prop) (U : State) (H : Heap) : Prop := ∃ (c : ClassId) (k : Class) (i : Nat) (f : Field) (a : Nat) (cell : Cell) (v : Value), U.vm.findClass C = some c ∧ U.fieldFound? C n d = some (c, k, i, f) ∧ f.isStatic = true ∧ k.statics = some a ∧ H[a]? = some cell ∧ cell.vm.isStatics = true ∧ cell.cls = c ∧ f.slot < cell.slots.size ∧ k.staticTypes[f.slot]? = some f.type ∧ cell.slots[f.slot]? = some v ∧ v.isRef = true ∧ ¬ A a
theorem xt_L.of {args : Array Value} {s : State} {C n d : String} {A : Nat → Prop} (hl : (Cond.laysStatic C n d).before args s = true) (hr : (Cond.isRef (.static C n d)).before args s = true) (hA : ∀ a : Nat, a < s.heap.size → ¬ A a) : xt_L C n d A s s.heap := by
  obtain ⟨c, k, i, f, a, cell, hc, hi, hst, ha, hcell, hs, hcls, hlt, hty⟩ := Cond.laysStatic_spec hl
  obtain ⟨v, hv, hv2⟩ := Cond.isRef_spec hr
  obtain ⟨hst', a', cell', ha', hcell', -, hslot⟩ := Term.static_spec hi hv
  cases ha.symm.trans ha'
  cases hcell.symm.trans hcell'
  exact ⟨c, k, i, f, a, cell, v, hc, hi, hst, ha, hcell, hs, hcls, hlt, hty, hslot, hv2, hA a (Array.getElem?_eq_some_iff.mp hcell).1⟩
theorem xt_L.at {C n d : String} {A B : Nat → Prop} {u U : State} {H0 H : Heap} (h : xt_L C n d A u H0) (hk : ∀ q : Nat, q < H0.size → ¬ A q → H[q]? = H0[q]?) (hAB : ∀ q, B q → A q) (hW : u.vm.Alike U.vm) : xt_L C n d B U H := by
  obtain ⟨c, k, i, f, a, cell, v, h1, h2, h3, h4, h5, h6, h7, h8, h9, h10, h11, h12⟩ := h
  obtain ⟨k', hi', he⟩ := State.fieldFound?_setVm hW h2
  exact ⟨c, k', i, f, a, cell, v, by rw [hW.findClass]; exact h1, hi', h3, by rw [he]; exact h4, by rw [hk a (Array.getElem?_eq_some_iff.mp h5).1 h12]; exact h5, h6, h7, h8, by rw [he]; exact h9, h10, h11, fun z => h12 (hAB a z)⟩
theorem xt_L.use {C n d : String} {A : Nat → Prop} {U : State} (h : xt_L C n d A U U.heap) (args : Array Value) : (Cond.laysStatic C n d).before args U = true ∧ (Cond.isRef (.static C n d)).before args U = true := by
  obtain ⟨c, k, i, f, a, cell, v, h1, h2, h3, h4, h5, h6, h7, h8, h9, h10, h11, h12⟩ := h
  constructor
  · simp [Cond.before, Cond.holds, Cond.value, h1, h2, h3, h4, h5, h6, h7, h8, h9]
  · have he : (Term.static C n d).eval args U none [] U = some v := by simp [Term.eval, State.fieldNamed?, h2, h3, h4, h5, h6, h10]
    simp only [Cond.before, Cond.holds, Cond.value, he]
    cases v <;> simp_all [Value.isRef]
def xt_E (aM : Nat) (A : Nat → Prop) (U : State) (H : Heap) : Prop := (∀ w ∈ xt_face, va_Nw w U) ∧ xt_L Bundle.tN "UNASSIGNED_STACK" Bundle.steD A U H ∧ xt_L Bundle.tN "SUPPRESSED_SENTINEL" Bundle.listD A U H ∧ vk_R "PatternText" 139 "each is 0" aM U
theorem xt_E.same {aM : Nat} {A : Nat → Prop} {u U : State} {H : Heap} (h : u.vm = U.vm) (hE : xt_E aM A u H) : xt_E aM A U H := by
  have hal : u.vm.Alike U.vm := by rw [h]; exact Vm.Alike.refl _
  exact ⟨fun w hw => va_tabs (xt_face_t w hw) h (hE.1 w hw), hE.2.1.at (fun _ _ _ => rfl) (fun _ h => h) hal, hE.2.2.1.at (fun _ _ _ => rfl) (fun _ h => h) hal, vk_R.same h.symm hE.2.2.2⟩
theorem xt_E.at {aM : Nat} {A B : Nat → Prop} {s U : State} {H : Heap} {locs : List Loc} (hE : xt_E aM A s s.heap) (hS : va_S A s.heap H locs) (hAB : ∀ q, B q → A q) (hW : s.WarmedH U.vm) (hU : U.heap = H) : xt_E aM B U U.heap := by
  rw [hU]
  refine ⟨fun w hw => ?_, hE.2.1.at hS.2.1 hAB hW.alike, hE.2.2.1.at hS.2.1 hAB hW.alike, hE.2.2.2.warm hW⟩
  exact va_tabs (u := s.setVm U.vm) (xt_face_t w hw) rfl (Cond.faceAtom_setVm hW.alike w (xt_face_f w hw) (hE.1 w hw))
theorem xt_E.own {aM : Nat} {A : Nat → Prop} {s : State} {args : Array Value} (hE : xt_E aM A s s.heap) (hts : ∀ w ∈ ga_tbl, w.before args s = true) : ∀ w ∈ Bundle.ownAtoms "PatternText" 141 xt_X xt_up, w.before args s = true := by
  intro w hw
  rcases xt_split w hw with h | h | h
  · exact hts w h
  · exact va_tabs (xt_face_t w h) rfl (hE.1 w h)
  · obtain ⟨u1, u2⟩ := hE.2.1.use args
    obtain ⟨u3, u4⟩ := hE.2.2.1.use args
    simp only [xt_stat, List.mem_cons, List.not_mem_nil, or_false] at h
    rcases h with rfl | rfl | rfl | rfl
    · exact u1
    · exact u3
    · exact u2
    · exact u4
theorem xt_entry {b : Nat} {s : State} {A : Nat → Prop} (hgv : (Jvm.Cond.and given_1 narrow_1).before #[Value.ref b] s = true) (hts : ∀ w ∈ lw_tbl, w.before #[Value.ref b] s = true) (hA : ∀ a : Nat, a < s.heap.size → ¬ A a) : ∃ aM : Nat, xt_E aM A s s.heap := by
  have hs := flat_of_before _ hgv
  obtain ⟨z1, z2, z3⟩ := xt_stat_1
  obtain ⟨y1, y2, y3⟩ := xt_stat_2
  obtain ⟨a, c, cA, kA, q1, -⟩ := Cond.exactly_spec (args := #[Value.ref b]) (first := s) (o := none) (s := s) (idx := []) (t := .string "PatternText" 139) (cls := "java/lang/String") (hs _ y3)
  exact ⟨a, fun w hw => va_tabs (xt_face_t w hw) rfl (hts _ (xt_face_in w hw)), xt_L.of (hts _ z1) (hs _ y1) hA, xt_L.of (hts _ z2) (hs _ y2) hA, vk_R.of (hts _ z3) q1⟩
/-- what comes of a method that ends in such a throw: nothing old is changed -/
def xt_Q (X : String) (_ : Array Value) (st : State) (o : Outcome) (t : State) : Prop := ∃ (x : Nat) (ce : Cell), o = .threw x ∧ st.heap.size ≤ x ∧ t.heap[x]? = some ce ∧ ce.vm.isStatics = false ∧ st.vm.findClass X = some ce.cls ∧ st.WarmedH t.vm ∧ st.sameButNew ({ t with vm := st.vm } : State) [] 1 6
theorem xt_old {s t : State} {k n : Nat} (h : s.sameButNew t [] k n) {q : Nat} (hq : q < s.heap.size) : t.heap[q]? = s.heap[q]? := by
  obtain ⟨c', h1, h2, h3, h4⟩ := h.2.2.2.2.2 q _ (Array.getElem?_eq_getElem hq)
  have hs : c'.slots = s.heap[q].slots := Array.ext_getElem? (fun i => h4 i (by simp))
  rw [h1, Array.getElem?_eq_getElem hq, h2, hs]
section XTW
variable {p : Program} {l : Launch} {e : Env} {R : Room} {s : State} {m : MethodId} {args : Array Value} {below : List Frame} {meth : Method} {c : Code} {H : Heap} {locs : List Loc} {cells slots : Nat} {Q : State → Prop}
variable {cc : ByteArray} {pc : Nat} {ls : Array Slot} {rest : List Value}
abbrev xt_Z (X : String) (below : List Frame) (a : Array Value) (s : State) : State → Prop := fun t => ∃ o, t.status = .running ∧ Ended t below o ∧ xt_Q X a s o t
/-- the constructor of the exception, and the throw -/
theorem xt_throw (hexec : p.tables.exec = Jvm.exec) (hb : c.code = cc) (hst : l.stackTraces = false) {own X : String} {names : List String} {ic : Nat} (hown : s.vm.findClass own = some m.cls) (hcls : Bundle.fit X = true) (hnames : ∀ n ∈ names, Bundle.fit n = true)
    (h : ∀ a ∈ Bundle.ownAtoms own ic X names, a.before args s = true) {cX : ClassId} {kX : Class} (hfX : s.vm.findClass X = some cX) (hkX : s.vm.classes[cX]? = some kX) {a q : Nat} (hcell : H[a]? = some (blank cX kX)) (hnew : s.heap.size ≤ a)
    (hml : c.maxLocals = ls.size) (hd1 : decode cc pc = .ok (.invokespecial ic, 3)) (hd2 : decode cc (pc + 3) = .ok (.athrow, 1)) (hno : c.exceptionTable.toList = []) (hRf : names.length + 3 < R.frames) (hRl : 1 + (13 * (names.length + 1) + 42) ≤ R.locals) (hlocks : meth.locks = false) :
    W p l e R s m args below meth c H [] 1 6 (xt_Z X below args s) (F0 m pc ls [.ref q, .ref a, .ref a]) := by
  intro T hT X0
  obtain ⟨U, hsteps, hrun, hend, hW, hsame, ce, hce, K⟩ := X0.ctorThrowS hexec (by rw [X0.admits.platform]; exact hst) (own := own) (cls := X) (names := names) (ic := ic) hown hcls hnames h (fun y hy => by cases hy) hfX hkX (by rw [hT]; exact hcell) hnew
    (msg := .ref q) rfl (g := F0 m pc ls [.ref q, .ref a, .ref a]) rfl hml.symm rfl rfl (rest := []) rfl (by rw [hb]; exact hd1) (by rw [hb]; exact hd2) (fun x hx => by rw [hno] at hx; cases hx) hRf hRl hlocks
  exact ⟨U, hsteps, .threw a, hrun, hend, a, ce, rfl, hnew, hce, by rw [K.vm]; rfl, K.cls, hW, hsame⟩
end XTW
set_option maxHeartbeats 4000000 in
set_option maxRecDepth 100000 in
theorem t_Pa_yearly (l : Launch) (hst : l.stackTraces = false) (dC : Nat → ClassId) (dI : Nat → Nat → Nat) (xx : Nat) (rd : Nat) (qa : Nat) (ho : Nat) (li : Nat) (cn : Nat) (pr : Value) (cP : ClassId) (pf : Nat → Option Nat) (pq : Nat) (pa : Nat) (dy : Nat) (aM : Nat) (hc0 : cn ≤ 10) (hk : pq < cn) (hpf : pf pq = some pa) (hdy : dy ≤ 1000000) : MetFree l y_Pa_yearly (headSpec w_Pa_yearly ({ frames := 6, cells := 1, slots := 6, locals := 100 })) (va_Pc [.ref xx, .int (nI pq), .int (nI dy), .int 0] (fun U => wy_R (dC, dI) ga_cl [(xx, .inr (4, [.ref rd, .ref qa, .ref ho, .ref li, .int (nI cn), pr])), (qa, .inl (cP, 10, .inr (.inr (.inr (.inr pf)))))] [(cP, .object "PatternText$Pattern")] U ∧ xt_E aM (fun _ => False) U U.heap)) (fun _ _ _ _ _ => True) (xt_Q xt_X) := by
  refine MetFree.of_bodyS (code := b_Pa_yearly) (maxLocals := 5) (ret := (some .int)) (by decide) ?_ ?_
  · intro args s m h hn
    obtain ⟨meth, c, h1, h2, h3, h4, h5, h6, -, -⟩ := Cond.code_spec hn (atoms_spec (ws := w_Pa_yearly) h _ List.mem_cons_self)
    exact ⟨meth, c, h1, h2, h3, h4, h5, h6⟩
  intro p e s m args below meth c s₁ B hml hv _
  obtain ⟨rfl, ⟨hP, hK, hN⟩, hE⟩ := hv
  have hx := B.exec
  have hb := B.bytes
  have hts : ∀ w ∈ ga_tbl, w.before _ s = true := fun w h => atoms_spec (ws := w_Pa_yearly) B.pre w (List.mem_cons_of_mem _ h)
  have hown : s.vm.findClass "PatternText" = some m.cls := findClass_of_methodNamed B.named
  have hlocks := B.notSynchronized
  have hno : c.exceptionTable.toList = [] := by
    obtain ⟨meth', c', q1, q2, -, -, -, -, q3, -⟩ := Cond.code_spec B.named (atoms_spec (ws := w_Pa_yearly) B.pre _ List.mem_cons_self)
    cases B.method.symm.trans q1
    cases (Stand.of_body B).code.symm.trans q2
    exact List.eq_nil_of_length_eq_zero (by simpa [Array.isEmpty] using q3)
  have hday : mo_day (nI dy) = true := by rw [mo_day_nI (by omega), decide_eq_true hdy]
  have hl := lv_entry ([.ref xx, .int (nI pq), .int (nI dy), .int 0]) (n := 5) (Nat.le_of_ble_eq_true rfl)
  have kw9 : W p l e ({ frames := 6, cells := 1, slots := 6, locals := 100 }) s m ([.ref xx, .int (nI pq), .int (nI dy), .int 0] : List Value).toArray below meth c s.heap [] 0 0 (xt_Z xt_X below ([.ref xx, .int (nI pq), .int (nI dy), .int 0] : List Value).toArray s) (entryFrame m ([.ref xx, .int (nI pq), .int (nI dy), .int 0] : List Value).toArray 5) := by
    rw [lg_entry_eq]
    generalize (lg_sl ([.ref xx, .int (nI pq), .int (nI dy), .int 0]) ++ List.replicate (5 - (lg_sl ([.ref xx, .int (nI pq), .int (nI dy), .int 0])).length) Slot.unset).toArray = ls at hl ⊢
    have hl : lv_has ls 5 [(0, .ref xx), (1, .int (nI pq)), (2, .int (nI dy)), (3, .int 0)] := hl
    refine lv_aload_n hx hb d_Pa_yearly_0 rfl (lv_at hl 0 rfl) ?_
    refine lv_iload_n hx hb d_Pa_yearly_1 rfl (lv_at hl 1 rfl) ?_
    refine va_csq (va_runV (As := [.int (nI pq)]) (rest := []) ⟨hx, hb, hml, hown, hts⟩ (c_Pa_patternOf_s l dC dI xx rd qa ho li cn pr cP pf pq pa (by omega) (hk) (hpf)) (cwV 1 hts (ga_V kw_346 kw_348 kw_11 kw_34 (ga_in kw_349)) rfl rfl rfl (by decide +kernel) ⟨Nat.le_of_ble_eq_true rfl, Nat.le_of_ble_eq_true rfl⟩) (wy_preV 0 (hP.sub (ws' := [(xx, .inr (4, [.ref rd, .ref qa, .ref ho, .ref li, .int (nI cn), pr])), (qa, .inl (cP, 10, .inr (.inr (.inr (.inr pf)))))]) [0, 1] rfl) (hK.sub (tys' := [(cP, .object "PatternText$Pattern")]) [0] rfl) hN (ci := 4) rfl rfl rfl) rfl rfl hl.1 rfl (lv_room (Nat.le_of_ble_eq_true rfl)) d_Pa_yearly_2 ⟨Nat.le_of_ble_eq_true rfl, Nat.le_of_ble_eq_true rfl⟩).run (fun r_2 h_2 => ?_)
    subst h_2
    refine lv_astore (lv' := [(4, .ref pa), (0, .ref xx), (1, .int (nI pq)), (2, .int (nI dy)), (3, .int 0)]) hx hb d_Pa_yearly_5 hl (by decide) rfl (fun ls hl => ?_)
    refine lv_aload hx hb d_Pa_yearly_7 (lv_at hl 0 rfl) ?_
    refine lv_ifnull hx hb d_Pa_yearly_9 ?_
    refine lv_iload_n hx hb d_Pa_yearly_12 rfl (lv_at hl 3 rfl) ?_
    refine vp_callSi (va_runS (As := [.int (nI dy)]) (rest := []) ⟨hx, hb, hml, hown, hts⟩ (c_Pa_isDay l dC dI (nI dy) ) (cwS 1 hts (ga_S kw_350 kw_351 kw_34 (ga_in kw_352)) rfl rfl rfl (by decide +kernel) ⟨Nat.le_of_ble_eq_true rfl, Nat.le_of_ble_eq_true rfl⟩) (wy_preS (hP.sub (ws' := []) [] rfl) (hK.sub (tys' := []) [] rfl) hN) rfl rfl hl.1 rfl (lv_room (Nat.le_of_ble_eq_true rfl)) d_Pa_yearly_13 ⟨Nat.le_of_ble_eq_true rfl, Nat.le_of_ble_eq_true rfl⟩).run (fun r_13 h_13 => ?_)
    subst h_13
    refine wy_ifneB (tgt := 21) hx hb d_Pa_yearly_16 (by decide) (fun c_16 => ?_) (fun c_16 => ?_)
    · refine lv_iload_n hx hb d_Pa_yearly_21 rfl (lv_at hl 4 rfl) ?_
      refine lv_if_ne (tgt := 35) hx hb d_Pa_yearly_22 (by decide) (fun z9 => absurd z9 (by decide)) (fun _ => ?_)
      obtain ⟨cX, kX, hfX, hkX⟩ : ∃ (cX : ClassId) (kX : Class), s.vm.findClass xt_X = some cX ∧ s.vm.classes[cX]? = some kX := by
        obtain ⟨c1, k1, z1, z2, -⟩ := Cond.instantiable_spec (hts _ kw_485)
        exact ⟨c1, k1, z1, z2⟩
      refine W.newcK (C := xt_X) (n := 6) hx hb hown (hts _ kw_484) (hts _ kw_485) (hts _ kw_49) rfl d_Pa_yearly_25 (Nat.le_of_ble_eq_true rfl) (Nat.le_of_ble_eq_true rfl) hfX rfl (fun H1 kC hkC z1 z2 z3 => ?_)
      obtain rfl : kC = kX := Option.some.inj (hkC.symm.trans hkX)
      refine lv_dup hx hb d_Pa_yearly_28 rfl ?_
      refine va_ldcS hx hb hown hE.2.2.2 d_Pa_yearly_29 ?_
      exact xt_throw hx hb hst (names := xt_up) hown (by decide +kernel) (by decide +kernel) (hE.own hts) hfX hkX z1 (Nat.le_refl _) (hml.trans hl.1.symm) d_Pa_yearly_31 d_Pa_yearly_34 hno (Nat.le_of_ble_eq_true rfl) (Nat.le_of_ble_eq_true rfl) hlocks
    · rw [hday] at c_16; cases c_16
  have hh0 : s₁.heap = s.heap := by rw [B.state]; rfl
  obtain ⟨t, a1, o, b1, b2, b3⟩ := kw9 s₁ hh0 (Stand.of_body B)
  exact ⟨t, o, a1, b1, b2, b3⟩
