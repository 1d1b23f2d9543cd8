/-! small rows for the law's walk -/
theorem sw_0_13 (x : Int32) : (x.toInt < 0 ∨ 13 < x.toInt) ∨ x = 0 ∨ x = 1 ∨ x = 2 ∨ x = 3 ∨ x = 4 ∨ x = 5 ∨ x = 6 ∨ x = 7 ∨ x = 8 ∨ x = 9 ∨ x = 10 ∨ x = 11 ∨ x = 12 ∨ x = 13 := by
  by_cases h : x.toInt < 0 ∨ 13 < x.toInt
  · exact Or.inl h
  · refine Or.inr ?_
    obtain ⟨j, hj, e⟩ := nI_of (x := x) (by rw [Int32.lt_iff_toInt_lt]; simp only [Int32.reduceToInt]; omega)
    subst e
    rw [nI_toInt hj] at h
    rcases (show j = 0 ∨ j = 1 ∨ j = 2 ∨ j = 3 ∨ j = 4 ∨ j = 5 ∨ j = 6 ∨ j = 7 ∨ j = 8 ∨ j = 9 ∨ j = 10 ∨ j = 11 ∨ j = 12 ∨ j = 13 by omega) with rfl | rfl | rfl | rfl | rfl | rfl | rfl | rfl | rfl | rfl | rfl | rfl | rfl | rfl <;> decide
theorem ms_thr (u : wz_M) : (ms_thrown u).2 = u := by
  obtain ⟨th, mn, tb, mpv, wr, ks, km, kj, kv, kr, kx, kz, cn, mhc, md, ⟨ms, gs, ge, gn, gt, gp, gc⟩, kp, pz⟩ := u
  rfl
theorem law_len {L t : Nat} (hL : L ≤ 2048) (ht : 4 * t ≤ L + 4) : (nI L - 4 < nI (4 * t)) ↔ L < 4 * t + 4 := by
  by_cases h4 : 4 ≤ L
  · rw [show (4 : Int32) = nI 4 from rfl, pk_sub h4, nI_ltI (by omega) (by omega)]
    omega
  · refine ⟨fun _ => by omega, fun _ => ?_⟩
    obtain ⟨k, hk, e⟩ : ∃ k, (k = 4 * t) ∧ k ≤ 8 := ⟨4 * t, rfl, by omega⟩
    subst hk
    rcases (show t = 0 ∨ t = 1 by omega) with rfl | rfl <;> rcases (show L = 0 ∨ L = 1 ∨ L = 2 ∨ L = 3 by omega) with rfl | rfl | rfl | rfl <;> decide
section WZO
variable {p : Program} {l : Launch} {e : Env} {R : Room} {s : State} {m : MethodId} {args : Array Value} {below : List Frame} {meth : Method} {c : Code} {H : Heap} {locs : List Loc} {cells slots : Nat} {Q : State → Prop}
variable {pc ix : Nat} {ls : Array Slot} {rest : List Value} {dC : Nat → ClassId} {dI : Nat → Nat → Nat} {A0 : Nat → Prop} {A : Nat → Nat} {K : Nat → ClassId} {x : wz_X} {u : wz_M} {o : Nat → Int64}
theorem O_load (C : CallFix p m c code 7 s args ga_tbl "PatternTextLaw") (hK : va_K (dC, dI) ga_cl (wz_T K) s) (hW : wz_W dC dI A0 A K s x u o H locs) (hdg : decode code pc = .ok (.laload, 1))
    (kk : W p l e R s m args below meth c H locs cells slots Q (F0 m (pc + 1) ls (.long (o (0 : Int32).toNatClampNeg) :: rest))) : W p l e R s m args below meth c H locs cells slots Q (F0 m pc ls (.int 0 :: .ref (A 33) :: rest)) := by
  obtain ⟨n, tx, ⟨pv, nu, st, mo, jo, vo, re⟩, P, pr, hc, hd, ns, fs, fe, fl, fn, ft, f2, fv, fp, fc⟩ := x
  obtain ⟨th, mn, tb, mpv, wr, ks, km, kj, kv, kr, kx, kz, cn, mhc, md, ⟨ms, gs, ge, gn, gt, gp, gc⟩, kp, pz⟩ := u
  exact va_lald C.1 C.2.1 hK hW.1 33 4 rfl rfl (show vp_in (0 : Int32) 1 from vp_in_nI (n := 0) (by decide) (by decide)) hdg kk
end WZO
