/-! class and reference agree: the list of issues -/
/-- one issue: a1 .. a9 are the class's, b1 .. b6 the reference's; p its pattern, n its first number, t whether it has two -/
def eq_E (vn : Nat → Nat) (rn : Nat → Bool) (cn k : Nat) (a1 a2 a3 a4 a5 a6 a7 a8 a9 b1 b2 b3 b4 b5 b6 : Int32) (p n : Nat) (t : Bool) : Prop :=
  (a1 = b1 ∧ ∃ d, d ≤ 1000000 ∧ b1 = nI d) ∧ (a2 = b2 ∧ ∃ d, d ≤ 1000000 ∧ b2 = nI d) ∧ a3 = nI (n - 1 + cond t 2 1) ∧ a4 = nI (cond t 2 1) ∧ a5 = nI (pt_told (rn p) (vn p) n) ∧ a6 = nI (cond t (pt_told (rn p) (vn p) (n + 1)) 0) ∧ a7 = nI (pt_vol (vn p) n) ∧ a8 = nI p ∧ (a9 = b6 ∧ (b6 = (-1) ∨ ∃ d, d ≤ 1000000 ∧ b6 = nI d)) ∧ b3 = nI n ∧ b4 = bo_I t ∧ b5 = nI p ∧ p < cn ∧ 1 ≤ n ∧ n ≤ 2 * k + 1
def eq_L (vn : Nat → Nat) (rn : Nat → Bool) (cn : Nat) (L : li_T) (M : mo_T) (pn nn : Nat → Nat) (tn : Nat → Bool) : Prop :=
  L.1 = M.1 ∧ L.1 ≤ 100 ∧ ∀ k, k < L.1 → eq_E vn rn cn k (L.2.1 k) (L.2.2.1 k) (L.2.2.2.1 k) (L.2.2.2.2.1 k) (L.2.2.2.2.2.1 k) (L.2.2.2.2.2.2.1 k) (L.2.2.2.2.2.2.2.1 k) (L.2.2.2.2.2.2.2.2.1 k) (L.2.2.2.2.2.2.2.2.2 k) (M.2.1 k) (M.2.2.1 k) (M.2.2.2.1 k) (M.2.2.2.2.1 k) (M.2.2.2.2.2.1 k) (M.2.2.2.2.2.2 k) (pn k) (nn k) (tn k)
theorem eq_put {vn : Nat → Nat} {rn : Nat → Bool} {cn : Nat} {L : li_T} {M : mo_T} {pn nn : Nat → Nat} {tn : Nat → Bool} {pq la st ex ct : Nat} (h : eq_L vn rn cn L M pn nn tn) (hp : pq < cn) (hl : L.1 < 100) (hla : la ≤ 2 * L.1) (hst : st ≤ 1000000) (hex : ex ≤ 1000000) (hct : 1 ≤ ct ∧ ct ≤ 2) :
    eq_L vn rn cn (li_put pq (vn pq) (rn pq) L la st ex ct) (mo_ps pq M (la + 1) st ex ct) (fun k => if k = L.1 then pq else pn k) (fun k => if k = L.1 then la + 1 else nn k) (fun k => if k = L.1 then decide (ct = 2) else tn k) := by
  obtain ⟨n, fs, fe, fl, fn, ft, f2, fv, fp, fc⟩ := L
  obtain ⟨n', ms, me, mn, mt, mp, mc⟩ := M
  obtain ⟨e0, e1, e2⟩ := h
  have e0' : n = n' := e0
  subst e0'
  refine ⟨rfl, show n + 1 ≤ 100 from hl, fun k hk => ?_⟩
  have hk' : k < n + 1 := hk
  show eq_E vn rn cn k (upd fs n (nI st) k) (upd fe n (nI ex) k) (upd fl n (nI (la + ct)) k) (upd fn n (nI ct) k) (upd ft n (nI (pt_told (rn pq) (vn pq) (la + 1))) k) (upd f2 n (nI (if 1 < ct then pt_told (rn pq) (vn pq) (la + 1 + 1) else 0)) k) (upd fv n (nI (pt_vol (vn pq) (la + 1))) k) (upd fp n (nI pq) k) (upd fc n (-1) k) (upd ms n (nI st) k) (upd me n (nI ex) k) (upd mn n (nI (la + 1)) k) (upd mt n (bo_I (decide (ct = 2))) k) (upd mp n (nI pq) k) (upd mc n (-1) k) (if k = n then pq else pn k) (if k = n then la + 1 else nn k) (if k = n then decide (ct = 2) else tn k)
  by_cases hkn : k = n
  · subst hkn
    simp only [upd_eq, if_pos]
    have hla' : la ≤ 2 * k := hla
    rcases (show ct = 1 ∨ ct = 2 by omega) with rfl | rfl
    · exact ⟨⟨rfl, st, hst, rfl⟩, ⟨rfl, ex, hex, rfl⟩, rfl, rfl, rfl, rfl, rfl, rfl, ⟨rfl, Or.inl rfl⟩, rfl, rfl, rfl, hp, by omega, by omega⟩
    · exact ⟨⟨rfl, st, hst, rfl⟩, ⟨rfl, ex, hex, rfl⟩, rfl, rfl, rfl, rfl, rfl, rfl, ⟨rfl, Or.inl rfl⟩, rfl, rfl, rfl, hp, by omega, by omega⟩
  · simp only [upd_ne _ _ hkn, if_neg hkn]
    exact e2 k (show k < n by omega)
/-- going on: the lists agree behind it, too -/
theorem eq_go {vn : Nat → Nat} {rn : Nat → Bool} {cn : Nat} {hd hm : Nat → Int32} {hc : Nat} (H : eq_H hd hm hc) {pq sd : Nat} {mo : Int32} {jo : Nat} (hp : pq < cn) : ∀ (f kk x la : Nat) (L : li_T) (M : mo_T) (pn nn : Nat → Nat) (tn : Nat → Bool), eq_L vn rn cn L M pn nn tn → L.1 + f ≤ 100 → la ≤ 2 * L.1 →
    ∃ (pn' nn' : Nat → Nat) (tn' : Nat → Bool), eq_L vn rn cn (li_go pq sd mo jo (vn pq) (rn pq) hd hc f (kk + 1) x la L) (mo_go pq sd mo jo hm hc f kk x (la + 1) M) pn' nn' tn' := by
  intro f
  induction f with
  | zero =>
    intro kk x la L M pn nn tn h _ _
    exact ⟨pn, nn, tn, h⟩
  | succ f ih =>
    intro kk x la L M pn nn tn h hf hla
    rw [li_go, mo_go, if_pos (by omega)]
    rcases hz : pt_sw sd mo x 1800 x with _ | s
    · exact ⟨pn, nn, tn, h⟩
    · obtain ⟨_, _, hs, _, _⟩ := pt_sw_in hz (Nat.le_refl x)
      have en := eq_nx H (e := s) (by omega)
      simp only [en]
      by_cases hb : 1000000 < ho_nx hd hc 0 s
      · rw [if_pos hb, if_pos hb]
        exact ⟨pn, nn, tn, h⟩
      · rw [if_neg hb, if_neg hb]
        have hn := pt_nums_in jo (kk + 1)
        have := ih (kk + 1) (s + sd) (la + pt_nums jo (kk + 1)) _ _ _ _ _ (eq_put (pq := pq) (la := la) (st := s) (ex := ho_nx hd hc 0 s) (ct := pt_nums jo (kk + 1)) h hp (by omega) hla hs (by omega) hn) (show L.1 + 1 + f ≤ 100 by omega) (show la + pt_nums jo (kk + 1) ≤ 2 * (L.1 + 1) by omega)
        rw [Nat.add_right_comm la (pt_nums jo (kk + 1)) 1] at this
        exact this
theorem eq_cut {vn : Nat → Nat} {rn : Nat → Bool} {cn : Nat} {L : li_T} {M : mo_T} {pn nn : Nat → Nat} {tn : Nat → Bool} (h : eq_L vn rn cn L M pn nn tn) {l : Nat} (hl : l ≤ L.1) : eq_L vn rn cn (l, L.2) (l, M.2) pn nn tn :=
  ⟨rfl, Nat.le_trans hl h.2.1, fun k hk => h.2.2 k (Nat.lt_of_lt_of_le hk hl)⟩
/-- the number that comes next -/
theorem eq_n0 {vn : Nat → Nat} {rn : Nat → Bool} {cn : Nat} {L : li_T} {M : mo_T} {pn nn : Nat → Nat} {tn : Nat → Bool} (h : eq_L vn rn cn L M pn nn tn) {l : Nat} (hl : l ≤ L.1) : ∃ la, mo_n0 nn tn l = la + 1 ∧ la ≤ 2 * l ∧ ((l = 0 ∧ la = 0) ∨ (0 < l ∧ L.2.2.2.1 (l - 1) = nI la)) := by
  cases l with
  | zero => exact ⟨0, rfl, by omega, Or.inl ⟨rfl, rfl⟩⟩
  | succ l =>
    obtain ⟨_, _, h3, _, _, _, _, _, _, _, _, _, _, h1, h2⟩ := h.2.2 l (by omega)
    refine ⟨nn l - 1 + cond (tn l) 2 1, ?_, ?_, Or.inr ⟨by omega, h3⟩⟩
    · show nn l + cond (tn l) 2 1 = _
      omega
    · cases tn l
      · show nn l - 1 + 1 ≤ _; omega
      · show nn l - 1 + 2 ≤ _; omega
theorem eq_iss {vn : Nat → Nat} {rn : Nat → Bool} {cn : Nat} {L : li_T} {M : mo_T} {pn nn : Nat → Nat} {tn : Nat → Bool} (h : eq_L vn rn cn L M pn nn tn) (x y : Int32) :
    pa_iss L.1 (L.2.2.2.2.2.1) (L.2.2.2.2.1) (L.2.2.2.2.2.2.2.1) (L.2.2.2.2.2.2.1) (L.2.2.2.2.2.2.2.2.1) (L.2.2.2.2.2.2.2.2.2) x y = mo_iss M.1 (M.2.2.2.2.2.2) pn nn vn rn tn x y := by
  unfold pa_iss mo_iss
  rw [← h.1]
  by_cases hh : li_has L.1 x = true
  · rw [if_pos hh, if_pos hh]
    have h100 := h.2.1
    obtain ⟨k, hk, rfl⟩ := li_has_of (by omega) hh
    rw [nI_clamp (by omega)]
    obtain ⟨_, _, h3, h4, h5, h6, h7, h8, h9, _⟩ := h.2.2 k hk
    rw [h4, h5, h6, h7, h8, h9.1]
    cases tn k <;> rfl
  · rw [if_neg hh, if_neg hh]
