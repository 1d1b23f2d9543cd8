def wz_okP (r : wz_Pr) : Prop := match r with
  | (pa, ps, pn, px, sd, pmo, pjo, pvo, pre) => 1 ≤ sd ∧ sd ≤ 2970 ∧ pjo ≤ 99 ∧ pvo ≤ 99 ∧ (pre = true → 0 < pvo) ∧ pn ≤ 120
/-- what the class's methods ask of its state -/
def wz_ok (x : wz_X) : Prop := match x with
  | (n, tx, (pv, nu, st, mo, jo, vo, re), P, pr, hc, hd, (ns, fs, fe, fl, fn, ft, f2, fv, fp, fc)) => n ≤ 120 ∧ P.length ≤ 10 ∧ (∀ (k : Nat) (r : wz_Pr), P[k]? = some r → wz_okP r) ∧ (∀ r : wz_Pr, pr = some r → ∃ k : Nat, P[k]? = some r) ∧ hc ≤ 60 ∧ ns ≤ 100 ∧ ∀ k, k < ns → ∃ la, la ≤ 1000 ∧ fl k = nI la
