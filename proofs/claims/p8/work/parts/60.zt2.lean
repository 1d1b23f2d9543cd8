/-! a caller with one handler, whose callee throws an object of the handler's class. First the search: in tables that have not noted the handler's class it does what it does in those that have. -/
section XTA
variable {e : Env} {u : State} {f : JFrame} {a : Addr} {meth : Method} {code : Code} {x : ExceptionTableEntry} {cX : ClassId}
/-- the tables behind the search -/
abbrev xt_vm (u : State) (i : ClassId) (x : ExceptionTableEntry) (cX : ClassId) : Vm := u.vm.noted i x.catchType (.cls cX)
theorem xt_alike (u : State) (i : ClassId) (x : ExceptionTableEntry) (cX : ClassId) : u.vm.Alike (xt_vm u i x cX) := (Vm.Alike.refl u.vm).noted _ _ _
theorem xt_warm (hm : u.vm.method? f.method = some meth) (hc : meth.code = some code) (hxt : code.exceptionTable.toList = [x]) (hin : covers x f.pc = true) (h0 : x.catchType ≠ 0) (hl : u.vm.ClassLinks e.platform f.method.cls x.catchType cX)
    (Q : Handler → Pre) (E : CtlPost) (d : Bool) (acts : List Action) : wp (findHandler f a) Q E e d acts u ↔ wp (findHandler f a) Q E e d acts (u.setVm (xt_vm u f.method.cls x cX)) := by
  have hm' : (u.setVm (xt_vm u f.method.cls x cX)).vm.method? f.method = some meth := ((xt_alike u f.method.cls x cX).method? _).trans hm
  obtain ⟨k, hk, hres⟩ := hl.ready
  have warm := resolveClass_memo e hk hres
  have cold := (resolveClass_links e.toSetting hl).op (op := VmOp.resolveClass f.method.cls x.catchType) rfl
  have hin' : (decide (x.startPc ≤ f.pc) && decide (f.pc < x.endPc)) = true := hin
  rw [W.findHandler_eq hm hc, W.findHandler_eq hm' hc, hxt]
  simp [findHandler.go, hin', h0, cold.1, cold.2, warm.1, warm.2, VmOp.dirties, VmOp.acts]
  exact Iff.rfl
/-- one step: from the throw into the handler -/
theorem xt_step (tb : Tables) {r : List Frame} {ce : Cell} (hf : u.frames = .throwing a :: .java f :: r) (hm : u.vm.method? f.method = some meth) (hc : meth.code = some code) (hxt : code.exceptionTable.toList = [x]) (hin : covers x f.pc = true) (h0 : x.catchType ≠ 0)
    (hl : u.vm.ClassLinks e.platform f.method.cls x.catchType ce.cls) (hce : u.heap[a]? = some ce) (hob : ce.vm.isStatics = false) (hfit : u.vm.assignable ce.cls ce.cls = true) :
    (stepThread tb e u).1 = (u.setVm (xt_vm u f.method.cls x ce.cls)).setFrames (.java { f with pc := x.handlerPc, stack := [.ref a] } :: r) := by
  have hal := xt_alike u f.method.cls x ce.cls
  have hat : ∃ k, (u.setVm (xt_vm u f.method.cls x ce.cls)).vm.classes[ce.cls]? = some k := by
    obtain ⟨_, _, _, k, _, _, _, _, _, hk, _, _⟩ := hl.here
    obtain ⟨k', hk', -⟩ := hal.2.2 _ _ hk
    exact ⟨k', hk'⟩
  have hlast : Finds e (u.setVm (xt_vm u f.method.cls x ce.cls)) f a (.found x.handlerPc) := fun Q E d acts => by
    rw [W.findHandler_eq (s := u.setVm (xt_vm u f.method.cls x ce.cls)) ((hal.method? _).trans hm) hc, hxt, W.findHandler_go_class (s := u.setVm (xt_vm u f.method.cls x ce.cls)) hin h0 hl.ready hce (VmData.ne_statics_of hob) hat hat]
    exact iff_of_eq (if_pos (by show (xt_vm u f.method.cls x ce.cls).assignable _ _ = true; rw [hal.assignable]; exact hfit))
  have hall := fun Q E d acts => (xt_warm (a := a) hm hc hxt hin h0 hl Q E d acts).trans (hlast Q E d acts)
  rw [stepThread_throwing hf]
  simp only [stepThrowing, searchFrame, vmDo]
  generalize hg : Sem.go _ e false [] u = res
  obtain ⟨as, rfl, -⟩ := Sem.eq_ok_of hg (a := Handler.found x.handlerPc) (s' := u.setVm (xt_vm u f.method.cls x ce.cls)) (acts' := []) (by simp [hall])
  rfl
end XTA
section XTC
variable {p : Program} {l : Launch} {e : Env} {R : Room} {s : State} {m : MethodId} {args : Array Value} {below : List Frame} {meth : Method} {c : Code} {H : Heap} {locs : List Loc} {cells slots : Nat} {Q : State → Prop}
/-- the callee's last state with the caller's frames laid back is one in which the caller stands -/
theorem xt_back {U t : State} (X : Stand p l e R s m args below meth c U locs cells slots) {g : JFrame} {mk : MethodId} {as : Array Value} {q : Addr} {k n : Nat} (hend : t.frames = .throwing q :: .java g :: U.frames.tail) (hW : U.WarmedH t.vm)
    (hs : (U.calling g mk as).sameButNew ({ t with vm := (U.calling g mk as).vm } : State) [] k n) :
    Stand p l e R s m args below meth c (t.setFrames U.frames) locs (cells + k) (slots + n) ∧ ((t.setFrames U.frames).setTop g).pushFrame (.throwing q) = t ∧ (∀ z, z < U.heap.size → t.heap[z]? = U.heap[z]?) ∧
      ∀ (vm' : Vm) (g' : JFrame), ((t.setFrames U.frames).setVm vm').setTop g' = (t.setVm vm').setFrames (.java g' :: U.frames.tail) := by
  obtain ⟨g₀, hg₀⟩ := Option.isSome_iff_exists.mp X.here.top
  obtain ⟨r, hr⟩ := State.topJava?_eq_some.mp hg₀
  have hself : U.setFrames U.frames = U := by
    obtain ⟨th, hth, -⟩ := State.frames_cons hr
    exact State.setFrames_self hth
  have htself : t.setFrames t.frames = t := by
    obtain ⟨th, hth, -⟩ := State.frames_cons hend
    exact State.setFrames_self hth
  have hfr : (t.setFrames U.frames).frames = .java g₀ :: r := (State.frames_setFrames _ (State.cur_lt_of_frames hend)).trans hr
  have hrt : U.frames.tail = r := by rw [hr]; rfl
  -- what the callee has left of the caller's state
  have hV : t.setFrames U.frames = ({ U with heap := t.heap, slotsUsed := t.slotsUsed } : State).setVm t.vm := by
    have h1 : ({ t with vm := (U.calling g mk as).vm } : State).setFrames U.frames = ({ ((U.calling g mk as).setFrames t.frames).setFrames U.frames with heap := t.heap, slotsUsed := t.slotsUsed } : State) := congrArg (fun w : State => w.setFrames U.frames) hs.1
    rw [State.setFrames_setFrames, State.calling_eq X.here.top, State.setFrames_setFrames, hself] at h1
    exact congrArg (fun w : State => w.setVm t.vm) h1
  have hnew : U.sameButNew ({ U with heap := t.heap, slotsUsed := t.slotsUsed } : State) [] k n :=
    ⟨by show _ = ({ U.setFrames U.frames with heap := t.heap, slotsUsed := t.slotsUsed } : State); rw [hself], hs.2⟩
  refine ⟨?_, ?_, fun z hz => xt_old hnew hz, fun vm' g' => ?_⟩
  · have hsum := X.same.trans (hnew.setVm s.vm)
    rw [List.append_nil] at hsum
    rw [hV]
    exact { admits := X.admits, cas := X.cas, clock := X.clock, frames := X.frames, room := X.room, hears := X.hears, method := X.method, code := X.code, here := (X.here.setHeapUsed t.heap t.slotsUsed).setVm hW.alike, tail := X.tail, warmed := X.warmed.trans hW, limits := X.limits, bytes := X.bytes, same := hsum }
  · rw [State.pushFrame, State.frames_setTop _ hfr, State.setTop_of_frames _ hfr, State.setFrames_setFrames, State.setFrames_setFrames, ← hrt, ← hend]
    exact htself
  · rw [State.setTop_of_frames (s := (t.setFrames U.frames).setVm vm') g' hfr, hrt]
    exact State.setFrames_setFrames (t.setVm vm') U.frames _
theorem xt_call {y : MethodName} {bytes cc : ByteArray} {maxL nL n index : Nat} {ret : Option FieldType} {ws : List Cond} {rm : Room} {Pc : Array Value → State → Prop} {Ts : List Cond} {own C X : String} {b : Addr} {As rest st0 : List Value} {pc : Nat} {ls : Array Slot}
    (S : CallFix p m c cc nL s args Ts own) (hM : MetFree l y (headSpec ws rm) Pc (fun _ _ _ _ _ => True) (xt_Q X)) (cw : CallW R s args own C index y bytes maxL ret ws rm 1 6 n) (hp : PreV s H C b Pc As)
    (hn : As.length = n) (hsize : ls.size = nL) (hstack : st0 = As.reverse ++ .ref b :: rest) (hW : (rest.map fun v => v.category).sum ≤ 8) (hdg : decode cc pc = .ok (.invokevirtual index, 3)) (hf : cells + 1 ≤ R.cells ∧ slots + 6 ≤ R.slots)
    {x : ExceptionTableEntry} (hxt : c.exceptionTable.toList = [x]) (hcov : covers x pc = true) (h0 : x.catchType ≠ 0) (hlink : (Cond.classLink own x.catchType X).before args s = true) (hcast : (Cond.castable X X).before args s = true)
    (kk : ∀ (q : Nat) (H1 : Heap), H.size ≤ q → H.size ≤ H1.size → (∀ z, z < H.size → H1[z]? = H[z]?) → W p l e R s m args below meth c H1 locs (cells + 1) (slots + 6) Q (F0 m x.handlerPc ls [.ref q])) : W p l e R s m args below meth c H locs cells slots Q (F0 m pc ls st0) := by
  intro T hT X0
  obtain ⟨⟨hrc, hrs, hfr, hlo, hws, hcw, hcode, hini, hy, hlen, hl⟩, hin, hse⟩ := cw
  obtain ⟨hx, hb, hml, ho, -⟩ := S
  obtain ⟨hblind, ⟨cellB, hcB, hoB, hclB⟩, hPc⟩ := hp
  -- into the callee
  obtain ⟨mk, methM, hnamed, hmethM, hstM, habM⟩ := Cond.instanceMethod_spec hin
  have hsel : selectMethod e.platform s.vm cellB.cls mk = .method mk ∧ ∃ kP, s.vm.classes[mk.cls]? = some kP ∧ kP.isInterface = false := by
    obtain ⟨_, _, _, q1, q2, q3, q4, kP, hkP, hkPi⟩ := Cond.selects_spec hse
    cases hclB.symm.trans q1
    cases (State.methodFound?_of_named hnamed hy).symm.trans q2
    cases hnamed.symm.trans q3
    exact ⟨(Launch.admits_selectMethod X0.admits ..).trans q4, kP, hkP, hkPi⟩
  obtain ⟨hsel, kP, hkP, hkPi⟩ := hsel
  have hargs : As.length = methM.sig.parameters.length := by
    obtain ⟨_, _, h1, -, -, -, -, -, -, h2⟩ := Cond.code_spec hnamed hcode
    cases hmethM.symm.trans h1
    exact hn.trans (hlen _ h2)
  obtain ⟨vm₁, X₁, into⟩ := X0.invokevirtual hx ho hl hnamed hmethM hstM hkP hkPi hy (a := b) (cell := cellB) (hT ▸ hcB) (fun z hz => by rw [hz] at hoB; cases hoB) hsel hmethM habM hkP hkPi (g := F0 m pc ls st0) rfl (argsL := As) (rest := rest) hargs hstack (hb ▸ hdg)
  have hU : (T.setVm vm₁).heap = H := hT
  generalize T.setVm vm₁ = U at X₁ hU into
  -- the callee, to its throw
  have run : ∃ (q : Nat) (ce : Cell) (t : State), Steps p.tables e below (doInvoke e (U.setTop (F0 m pc ls rest)) [] mk (Value.ref b :: As).toArray).1 t ∧ t.frames = .throwing q :: .java (F0 m pc ls rest) :: U.frames.tail ∧ U.heap.size ≤ q ∧ t.heap[q]? = some ce ∧ ce.vm.isStatics = false ∧
      U.vm.findClass X = some ce.cls ∧ U.WarmedH t.vm ∧ (U.calling (F0 m pc ls rest) mk (Value.ref b :: As).toArray).sameButNew ({ t with vm := (U.calling (F0 m pc ls rest) mk (Value.ref b :: As).toArray).vm } : State) [] 1 6 := by
    have hnU := X₁.named hnamed
    obtain ⟨_, _, hmY, hcY, -, hlY, -, -, -, -⟩ := Cond.code_spec hnU (hws _ hcw #[] U X₁.warmed)
    obtain ⟨kY, hkY, -⟩ := className_of_methodNamed hnU
    have happ := Spec.appliesLoose_calling (S := headSpec ws rm) (g := F0 m pc ls rest) (args := (Value.ref b :: As).toArray) X₁.here (show decode c.code pc = .ok (.invokevirtual index, 3) from hb ▸ hdg) hnU hkY
      (Cond.initialized_spec (args := #[]) (findClass_of_methodNamed hnU) hkY (word_at X₁.warmed (Or.inl (by first | rfl | simp [Cond.onTables, Cond.keeps, Cond.steady])) hini))
      (X₁.room_calling (g := F0 m pc ls rest) (R' := rm) (hsize.trans hml.symm) hmY hcY hfr (by rw [hlY]; show 2 * 0 + (rest.map fun v => v.category).sum + (maxL + 11) + rm.locals ≤ R.locals; omega) (hrc ▸ hf.1) (hrs ▸ hf.2)) (atoms_intro fun w hw => hws w hw _ _ X₁.warmed)
    obtain ⟨mid, hmid⟩ := X₁.here.above
    obtain ⟨o, t, hsteps, -, hend, hq⟩ := Steps.callFree hM p X₁.admits X₁.cas X₁.clock (acts := []) (mid := .java (F0 m pc ls rest) :: mid) (by rw [State.frames_setTop' _ X₁.here.top, hmid]; rfl) happ (hblind _ _ _ _ (hPc U hU X₁.warmed)) trivial
    obtain ⟨q, ce, rfl, h1, h2, h3, h4, h5, h6⟩ := hq
    exact ⟨q, ce, t, hsteps, by rw [← State.frames_setTop' _ X₁.here.top]; exact hend, h1, h2, h3, h4, h5, h6⟩
  obtain ⟨q, ce, t, hsteps, htf, hnew, hce, hob, hcC, hW₂, hsame⟩ := run
  obtain ⟨XV, hVt, hold, htop⟩ := xt_back X₁ htf hW₂ hsame
  -- the handler's class
  have hfc : s.vm.findClass X = some ce.cls := by rw [← X₁.warmed.alike.findClass]; exact hcC
  obtain ⟨_, hcT, hcl⟩ := Cond.classLink_spec ho hlink e.platform (by rw [X0.admits.platform])
  cases hfc.symm.trans hcT
  have hfit : s.vm.assignable ce.cls ce.cls = true := by
    obtain ⟨_, _, w1, w2, w3⟩ := Cond.castable_spec hcast
    cases hfc.symm.trans w1
    cases hfc.symm.trans w2
    exact w3
  have hnote : s.WarmedH (xt_vm t m.cls x ce.cls) := by
    obtain ⟨_, _, _, _, hd, _, _, _, _, _, _, hopen⟩ := hcl.here
    exact XV.warmed.noted hd hopen (State.rightAt_cls hcl)
  -- and on
  obtain ⟨t', hgo, hQ⟩ := kk q t.heap (hU ▸ hnew) (hU ▸ hsame.2.1) (fun z hz => by rw [← hU] at hz ⊢; exact hold z hz) ((t.setFrames U.frames).setVm (xt_vm t m.cls x ce.cls)) rfl (XV.noted hnote)
  refine ⟨t', into _ fun acts => ?_, hQ⟩
  rw [doInvoke_state]
  refine hsteps.trans ?_
  obtain ⟨on, within⟩ := At.throwing (g := F0 m pc ls rest) XV.here q
  rw [hVt] at on within
  refine Steps.head on within ?_
  rw [xt_step p.tables (f := F0 m pc ls rest) (meth := meth) (code := c) htf XV.method' XV.code hxt hcov h0 (XV.warmed.classLinks hcl) hce hob ((XV.warmed.alike.assignable _ _).trans hfit)]
  have h2 := hgo
  rw [htop] at h2
  exact h2
end XTC
