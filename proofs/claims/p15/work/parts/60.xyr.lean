/-! yearly, by the law's own method; no throw yet -/
def xs_yearly (x : wz_X) (i1 i2 i3 : Int32) : Int32 × Int32 := match x with
  | (n, tx, R, P, pr, hc, hd, L) => match xp_at P i1 with
    | none => (0, -1)
    | some r => cond (mo_day i2) (if i3 = 0 then (1, 0) else (0, nI (mo_yr (xr_sd r) (xr_mo r) i2.toNatClampNeg 361 i2.toNatClampNeg 0) / i3)) (0, -1)
def xo_yearly (x : wz_X) (i1 i2 i3 : Int32) (o : Nat → Int64) : Nat → Int64 := if (xs_yearly x i1 i2 i3).1 = 0 then vp_updL o (0 : Int32).toNatClampNeg (xs_yearly x i1 i2 i3).2.toInt64 else o
section WZY
variable {p : Program} {l : Launch} {e : Env} {s : State} {m : MethodId} {args : Array Value} {below : List Frame} {meth : Method} {c : Code} {H : Heap} {locs : List Loc} {cells slots : Nat} {Q : State → Prop}
variable {pc ix : Nat} {ls : Array Slot} {rest : List Value} {dC : Nat → ClassId} {dI : Nat → Nat → Nat} {A0 : Nat → Prop} {A : Nat → Nat} {K : Nat → ClassId} {x : wz_X} {u : wz_M} {o : Nat → Int64}
theorem X_yearly_q (C : CallFix p m c code 7 s args ga_tbl "PatternTextLaw") (hN : ga_N s) (hK : va_K (dC, dI) ga_cl (wz_T K) s) (hA : ∀ q, s.heap.size ≤ q → A0 q) (hok : wz_ok x) (i1 i2 i3 : Int32) (hnt : (xs_yearly x i1 i2 i3).1 = 0) (hW : wz_W dC dI A0 A K s x u o H locs) (lk : Cond.methodLink "PatternTextLaw" ix y_La_yearly ∈ ga_tbl) (hsz : ls.size = 7) (hrst : (rest.map fun v => v.category).sum ≤ 8) (hdg : decode code pc = .ok (.invokestatic ix, 3)) (hf : cells ≤ room_1.cells ∧ slots ≤ room_1.slots)
    (kk : ∀ (H1 : Heap) (locs1 : List Loc), wz_W dC dI A0 A K s x u (xo_yearly x i1 i2 i3 o) H1 locs1 → W p l e room_1 s m args below meth c H1 locs1 cells slots Q (F0 m (pc + 3) ls (.int (xs_yearly x i1 i2 i3).1 :: rest))) : W p l e room_1 s m args below meth c H locs cells slots Q (F0 m pc ls (.ref (A 33) :: .int i3 :: .int i2 :: .int i1 :: .ref (A 0) :: rest)) := by
  unfold xo_yearly at kk
  rw [if_pos hnt] at kk
  obtain ⟨n, tx, ⟨pv, nu, st, mo, jo, vo, re⟩, P, pr, hc, hd, ns, fs, fe, fl, fn, ft, f2, fv, fp, fc⟩ := x
  obtain ⟨th, mn, tb, mpv, wr, ks, km, kj, kv, kr, kx, kz, cn, mhc, md, ⟨ms, gs, ge, gn, gt, gp, gc⟩, kp, pz⟩ := u
  have h2 : P.length ≤ 10 := hok.2.1
  rcases hp : xp_at P i1 with _ | r
  · simp only [xs_yearly, hp] at kk
    exact x_yearly_n C hN hK hA i1 i2 i3 hok (xp_none h2 hp) hW lk hsz hrst hdg hf kk
  · obtain ⟨k, hk, hkr, rfl⟩ := xp_some h2 hp
    obtain ⟨pa, ps, pn, px, sd, pmo, pjo, pvo, pre⟩ := r
    rcases hb : mo_day i2 with _ | _
    · simp only [xs_yearly, hp, hb, cond_false] at kk
      exact x_yearly_b C hN hK hA k hkr i2 i3 hok hb hW lk hsz hrst hdg hf kk
    · obtain ⟨dy, hdy, rfl⟩ := mo_day_of hb
      by_cases hz : i3 = 0
      · simp only [xs_yearly, hp, hb, cond_true, if_pos hz] at hnt
        exact absurd hnt (by decide)
      · simp only [xs_yearly, hp, hb, cond_true, if_neg hz] at kk
        rw [nI_clamp (show dy < 2 ^ 31 by omega)] at kk
        exact x_yearly_s C hN hK hA k hkr i3 dy hok hdy hz hW lk hsz hrst hdg hf kk
end WZY
theorem s_yearly {x : wz_X} {u : wz_M} (h : wz_S x u) (i1 i2 i3 : Int32) : (ms_thrown (ms_yearly u i1 i2 i3).2).1 = (xs_yearly x i1 i2 i3).1 ∧ ((xs_yearly x i1 i2 i3).1 = 0 → (xs_yearly x i1 i2 i3).2 = (ms_yearly u i1 i2 i3).1) ∧ wz_S x (ms_yearly u i1 i2 i3).2 := by
  obtain ⟨n, tx, ⟨pv, nu, st, mo, jo, vo, re⟩, P, pr, hc, hd, ns, fs, fe, fl, fn, ft, f2, fv, fp, fc⟩ := x
  obtain ⟨th, mn, tb, mpv, wr, ks, km, kj, kv, kr, kx, kz, cn, mhc, md, ⟨ms, gs, ge, gn, gt, gp, gc⟩, kp, pz⟩ := u
  obtain ⟨⟨a1, a2, a3, a4⟩, ⟨b1, b2, b3, b4⟩, c0, ⟨d1, d2⟩, pn, nn, tn, e0⟩ := h
  subst a2; subst b1; subst d1
  rw [← and_assoc]
  refine ⟨?_, ⟨a1, rfl, a3, a4⟩, ⟨rfl, b2, b3, b4⟩, c0, ⟨rfl, d2⟩, pn, nn, tn, e0⟩
  rcases hp : xp_at P i1 with _ | r
  · have hh := xp_none b2 hp
    simp only [xs_yearly, ms_yearly, ms_thrown, hp, hh, Bool.false_and, cond_false]
    exact ⟨trivial, fun _ => trivial⟩
  · have hh := s_has b2 hp
    rcases hb : mo_day i2 with _ | _
    · simp only [xs_yearly, ms_yearly, ms_thrown, hp, hh, hb, Bool.true_and, cond_false]
      exact ⟨trivial, fun _ => trivial⟩
    · obtain ⟨k, hk, hkr, rfl⟩ := xp_some b2 hp
      obtain ⟨⟨g1, g2, g3, g4, g5, g6⟩, p1, p2, p3, p4, p5, p6, p7⟩ := b4 k r hkr
      have w1 : wt ks k = xr_sd r := wt_of p1 (Nat.lt_of_le_of_lt g2 (by decide))
      by_cases hz : i3 = 0
      · simp only [xs_yearly, ms_yearly, ms_thrown, hp, hh, hb, Bool.true_and, cond_true, if_pos hz]
        exact ⟨trivial, fun z => absurd z (by decide)⟩
      · simp only [xs_yearly, ms_yearly, ms_thrown, hp, hh, hb, Bool.true_and, cond_true, if_neg hz, nI_clamp (show k < 2 ^ 31 by omega), w1, p2]
        exact ⟨trivial, fun _ => trivial⟩
/-! the law's entry: strings, nest links -/
theorem st_of {args : Array Value} {s : State} {tm : Term} {N : Nat} {f : Nat → Int32} {A : Nat → Prop} (hN : N < 2 ^ 31) (hex : (Cond.exactly tm "java/lang/String").before args s = true) (hco : (Cond.eq (.field tm "java/lang/String" "coder" "B") (.int 0)).before args s = true) (har : (Cond.arrayOf (.field tm "java/lang/String" "value" "[B") .byte).before args s = true) (hle : (Cond.eq (.length (.field tm "java/lang/String" "value" "[B")) (.int (Int32.ofNat N))).before args s = true)
    (hel : ∀ j : Nat, j < N → (Cond.eq (.elem (.field tm "java/lang/String" "value" "[B") (.int (Int32.ofNat j))) (.int (f j))).before args s = true) (hA : ∀ a : Nat, a < s.heap.size → ¬ A a) : ∃ a t : Nat, tm.eval args s none [] s = some (.ref a) ∧ va_O "java/lang/String" a A s s.heap ∧ va_OF "java/lang/String" "coder" "B" (.int 0) a A s s.heap ∧ va_OF "java/lang/String" "value" "[B" (.ref t) a A s s.heap ∧ va_T .byte t N (fun j => .int (f j)) A s s.heap := by
  obtain ⟨a, c, cA, kA, q1, q2, q3, q4, q5, q6, -⟩ := Cond.exactly_spec (args := args) (first := s) (o := none) (s := s) (idx := []) (t := tm) (cls := "java/lang/String") hex
  obtain ⟨t, ht, hT⟩ := va_Tof (f := fun j => .int (f j)) (A := A) hN har (va_eqt hle) (fun j hj => va_eqt (hel j hj)) hA
  exact ⟨a, t, q1, ⟨cA, q3, q5, by rw [q6]; exact q2, hA a (Array.getElem?_eq_some_iff.mp q3).1⟩, vk_OFof q1 (va_eqt hco) hA, vk_OFof q1 ht hA, hT⟩
abbrev st_tm (i : Nat) : Term := .string "PatternText$PatternReader" (sv_ix i)
abbrev st_all : List Cond := flatC (Jvm.Cond.and given_1 narrow_1)
theorem st_1 : ∀ i, i < 8 → Cond.exactly (st_tm i) "java/lang/String" ∈ st_all := by decide +kernel
theorem st_2 : ∀ i, i < 8 → Cond.eq (.field (st_tm i) "java/lang/String" "coder" "B") (.int 0) ∈ st_all := by decide +kernel
theorem st_3 : ∀ i, i < 8 → Cond.arrayOf (.field (st_tm i) "java/lang/String" "value" "[B") .byte ∈ st_all := by decide +kernel
theorem st_4 : ∀ i, i < 8 → Cond.eq (.length (.field (st_tm i) "java/lang/String" "value" "[B")) (.int (Int32.ofNat (sv_len i))) ∈ st_all := by decide +kernel
theorem st_5 : ∀ i, i < 8 → ∀ j, j < sv_len i → Cond.eq (.elem (.field (st_tm i) "java/lang/String" "value" "[B") (.int (Int32.ofNat j))) (.int (sv_w i j)) ∈ st_all := by decide +kernel
theorem st_6 : ∀ i, i < 8 → Cond.stringRef "PatternText$PatternReader" (sv_ix i) (sv_txt i) ∈ lw_tbl := by decide +kernel
theorem st_7 : Cond.eq (.static "java/lang/String" "COMPACT_STRINGS" "Z") (.int 1) ∈ st_all := by decide +kernel
theorem st_8 : Cond.isRef (.static "jdk/internal/util/Preconditions" "SIOOBE_FORMATTER" "Ljava/util/function/BiFunction;") ∈ st_all := by decide +kernel
theorem st_9 : Cond.laysStatic "java/lang/String" "COMPACT_STRINGS" "Z" ∈ lw_tbl ∧ Cond.initialized "java/lang/String" ∈ lw_tbl ∧ Cond.laysStatic "jdk/internal/util/Preconditions" "SIOOBE_FORMATTER" "Ljava/util/function/BiFunction;" ∈ lw_tbl ∧ Cond.initialized "jdk/internal/util/Preconditions" ∈ lw_tbl := by decide +kernel
theorem sv_entry {b : Nat} {s : State} {A : Nat → Prop} (hgv : (Jvm.Cond.and given_1 narrow_1).before #[Value.ref b] s = true) (hts : ∀ w ∈ lw_tbl, w.before #[Value.ref b] s = true) (hA : ∀ a : Nat, a < s.heap.size → ¬ A a) : ∃ ad av : Nat → Nat, sv_E ad av A s s.heap := by
  have hs := flat_of_before _ hgv
  have h0 : ∀ i : Nat, ∃ q : Nat × Nat, i < 8 → (st_tm i).eval #[Value.ref b] s none [] s = some (.ref q.1) ∧ sv_at q.1 q.2 (sv_len i) (sv_w i) A s s.heap := by
    intro i
    by_cases hi : i < 8
    · obtain ⟨a, t, q1, q2⟩ := st_of (A := A) (f := sv_w i) (N := sv_len i) (Nat.lt_of_le_of_lt (sv_len_le i) (by decide)) (hs _ (st_1 i hi)) (hs _ (st_2 i hi)) (hs _ (st_3 i hi)) (hs _ (st_4 i hi)) (fun j hj => hs _ (st_5 i hi j hj)) hA
      exact ⟨(a, t), fun _ => ⟨q1, q2⟩⟩
    · exact ⟨(0, 0), fun h => absurd h hi⟩
  obtain ⟨ad, had⟩ := Classical.axiomOfChoice h0
  obtain ⟨z1, z2, z3, z4⟩ := st_9
  exact ⟨fun i => (ad i).1, fun i => (ad i).2, va_Zof (hts _ z1) (hts _ z2) (va_eqt (hs _ st_7)) hA, va_Zqof (hts _ z3) (hts _ z4) (hs _ st_8) hA, fun i hi => ⟨(had i hi).2, vk_R.of (hts _ (st_6 i hi)) (had i hi).1⟩⟩
theorem ga_ao : Cond.arrayOver (.object "PatternText$Pattern") ∈ lw_tbl := by decide +kernel
theorem ga_nest_in : ∀ w ∈ ga_nest, w ∈ lw_tbl := by decide +kernel
theorem ga_nest_t : ∀ w ∈ ga_nest, w.onTables = true := by decide +kernel
theorem ga_entry {b : Nat} {s : State} (hts : ∀ w ∈ lw_tbl, w.before #[Value.ref b] s = true) : ga_N s := by
  refine ⟨fun w hw => ?_, va_AO.of (hts _ ga_ao)⟩
  exact va_tabs (ga_nest_t w hw) rfl (hts _ (ga_nest_in w hw))
