/-! class and reference agree: claims by their order -/
def eq_cs (P : Nat → Bool) : Nat → Nat → Nat
  | 0, _ => 0
  | f + 1, k => cond (P k) 1 0 + eq_cs P f (k + 1)
theorem cs_congr {P Q : Nat → Bool} : ∀ (f k : Nat), (∀ j, k ≤ j → j < k + f → P j = Q j) → eq_cs P f k = eq_cs Q f k := by
  intro f
  induction f with
  | zero => intro k _; rfl
  | succ f ih =>
    intro k h
    rw [eq_cs, eq_cs, h k (by omega) (by omega), ih (k + 1) (fun j a b => h j (by omega) (by omega))]
theorem cs_le {P Q : Nat → Bool} : ∀ (f k : Nat), (∀ j, k ≤ j → j < k + f → P j = true → Q j = true) → eq_cs P f k ≤ eq_cs Q f k := by
  intro f
  induction f with
  | zero => intro k _; exact Nat.le_refl _
  | succ f ih =>
    intro k h
    rw [eq_cs, eq_cs]
    have h1 := ih (k + 1) (fun j a b => h j (by omega) (by omega))
    have h2 := h k (by omega) (by omega)
    cases hp : P k
    · simp only [cond_false]; omega
    · rw [h2 hp]; simp only [cond_true]; omega
theorem cs_add {P Q : Nat → Bool} {i : Nat} (hP : P i = false) (hQ : Q i = true) : ∀ (f k : Nat), k ≤ i → i < k + f → (∀ j, k ≤ j → j < k + f → j ≠ i → P j = Q j) → eq_cs Q f k = eq_cs P f k + 1 := by
  intro f
  induction f with
  | zero => intro k a b _; omega
  | succ f ih =>
    intro k a b h
    rw [eq_cs, eq_cs]
    by_cases hk : k = i
    · subst hk
      rw [hP, hQ, cs_congr f (k + 1) (fun j a b => h j (by omega) (by omega) (by omega))]
      simp only [cond_true, cond_false]; omega
    · rw [h k (by omega) (by omega) hk, ih (k + 1) (by omega) (by omega) (fun j a b c => h j (by omega) (by omega) c)]
      omega
theorem cs_0 {P : Nat → Bool} : ∀ (f k : Nat), (∀ j, k ≤ j → j < k + f → P j = false) → eq_cs P f k = 0 := by
  intro f
  induction f with
  | zero => intro k _; rfl
  | succ f ih =>
    intro k h
    rw [eq_cs, h k (by omega) (by omega), ih (k + 1) (fun j a b => h j (by omega) (by omega))]
    rfl
/-- how many of P stand ahead of k by their keys -/
def eq_rk (P : Nat → Bool) (K : Nat → Nat) (n k : Nat) : Nat := eq_cs (fun j => P j && decide (K j < K k)) n 0
section EQR
variable {P : Nat → Bool} {K : Nat → Nat} {n : Nat}
theorem rk_nx (hK : ∀ i j, i < n → j < n → K i = K j → i = j) {k m : Nat} (hk : k < n) (pk : P k = true) (hkm : K k < K m) (hmin : ∀ j, j < n → P j = true → K k < K j → ¬ K j < K m) : eq_rk P K n m = eq_rk P K n k + 1 := by
  refine cs_add (i := k) ?_ ?_ n 0 (by omega) (by omega) (fun j _ b c => ?_)
  · show (P k && decide (K k < K k)) = false
    rw [decide_eq_false (by omega), Bool.and_false]
  · show (P k && decide (K k < K m)) = true
    rw [pk, decide_eq_true hkm]; rfl
  · show (P j && decide (K j < K k)) = (P j && decide (K j < K m))
    cases pj : P j
    · rfl
    · have h1 := hmin j (by omega) pj
      have h2 : K j ≠ K k := fun e => c (hK j k (by omega) hk e)
      have : K j < K k ↔ K j < K m := by constructor <;> intro h <;> omega
      rw [decide_eq_decide.mpr this]
theorem rk_lo {m : Nat} (hmin : ∀ j, j < n → P j = true → ¬ K j < K m) : eq_rk P K n m = 0 := by
  refine cs_0 n 0 (fun j _ b => ?_)
  show (P j && decide (K j < K m)) = false
  cases pj : P j
  · rfl
  · rw [decide_eq_false (hmin j (by omega) pj)]; rfl
theorem rk_hi (hK : ∀ i j, i < n → j < n → K i = K j → i = j) {k : Nat} (hk : k < n) (pk : P k = true) (hmax : ∀ j, j < n → P j = true → ¬ K k < K j) : eq_cs P n 0 = eq_rk P K n k + 1 := by
  refine cs_add (i := k) ?_ pk n 0 (by omega) (by omega) (fun j _ b c => ?_)
  · show (P k && decide (K k < K k)) = false
    rw [decide_eq_false (by omega), Bool.and_false]
  · show (P j && decide (K j < K k)) = P j
    cases pj : P j
    · rfl
    · have h1 := hmax j (by omega) pj
      have h2 : K j ≠ K k := fun e => c (hK j k (by omega) hk e)
      rw [decide_eq_true (by omega)]; rfl
theorem rk_le (hK : ∀ i j, i < n → j < n → K i = K j → i = j) {k : Nat} (hk : k < n) (pk : P k = true) {Q : Nat → Bool} (hQ : ∀ j, j < n → P j = true → K j ≤ K k → Q j = true) : eq_rk P K n k + 1 ≤ eq_cs Q n 0 := by
  have h1 : eq_cs (fun j => P j && decide (K j ≤ K k)) n 0 = eq_rk P K n k + 1 := by
    refine cs_add (i := k) ?_ ?_ n 0 (by omega) (by omega) (fun j _ b c => ?_)
    · show (P k && decide (K k < K k)) = false
      rw [decide_eq_false (by omega), Bool.and_false]
    · show (P k && decide (K k ≤ K k)) = true
      rw [pk, decide_eq_true (Nat.le_refl _)]; rfl
    · show (P j && decide (K j < K k)) = (P j && decide (K j ≤ K k))
      have h2 : K j ≠ K k := fun e => c (hK j k (by omega) hk e)
      have : K j < K k ↔ K j ≤ K k := by constructor <;> intro h <;> omega
      rw [decide_eq_decide.mpr this]
  rw [← h1]
  refine cs_le n 0 (fun j _ b h => ?_)
  simp only [Bool.and_eq_true, decide_eq_true_eq] at h
  exact hQ j (by omega) h.1 h.2
theorem rk_lt (hK : ∀ i j, i < n → j < n → K i = K j → i = j) {k : Nat} (hk : k < n) (pk : P k = true) : eq_rk P K n k < eq_cs P n 0 :=
  rk_le hK hk pk (fun _ _ h _ => h)
theorem rk_inj (hK : ∀ i j, i < n → j < n → K i = K j → i = j) {k m : Nat} (hk : k < n) (pk : P k = true) (hm : m < n) (pm : P m = true) (h : eq_rk P K n k = eq_rk P K n m) : k = m := by
  have up : ∀ a b, a < n → P a = true → K a < K b → eq_rk P K n a + 1 ≤ eq_rk P K n b := fun a b ha pa hab =>
    rk_le hK ha pa (fun j _ pj hj => by
      show (P j && decide (K j < K b)) = true
      rw [pj, decide_eq_true (by omega)]; rfl)
  rcases Nat.lt_trichotomy (K k) (K m) with h1 | h1 | h1
  · have := up k m hk pk h1; omega
  · exact hK k m hk hm h1
  · have := up m k hm pm h1; omega
end EQR
section EQC
variable {n : Nat} {fc fe : Nat → Int32} {dy : Int32} {K : Nat → Nat}
theorem eq_nxt_ch (hb : ∀ i j, i < n → j < n → li_bfr fe i j = decide (K i < K j)) (b : Option Nat) : ∀ (f k : Nat) (be : Option Nat), k + f = n → (∀ j, be = some j → j < n) →
    (li_nxt n fc fe dy b f k be = none ∧ be = none ∧ ∀ j, k ≤ j → j < n → li_fol n fc fe dy b j = false) ∨ ∃ m, li_nxt n fc fe dy b f k be = some m ∧ m < n ∧ (be = some m ∨ li_fol n fc fe dy b m = true) ∧ (∀ j, k ≤ j → j < n → li_fol n fc fe dy b j = true → ¬ K j < K m) ∧ ∀ j, be = some j → ¬ K j < K m := by
  intro f
  induction f with
  | zero =>
    intro k be hk hbe
    rw [li_nxt]
    cases be with
    | none => exact Or.inl ⟨rfl, rfl, fun j a c => by omega⟩
    | some m => exact Or.inr ⟨m, rfl, hbe m rfl, Or.inl rfl, fun j a c => by omega, fun j hj => by cases hj; omega⟩
  | succ f ih =>
    intro k be hk hbe
    rw [li_nxt]
    cases hf : li_fol n fc fe dy b k
    · rw [Bool.false_and, cond_false]
      rcases ih (k + 1) be (by omega) hbe with ⟨h1, h2, h3⟩ | ⟨m, h1, h2, h3, h4, h5⟩
      · refine Or.inl ⟨h1, h2, fun j a c => ?_⟩
        by_cases hj : j = k
        · rw [hj]; exact hf
        · exact h3 j (by omega) c
      · refine Or.inr ⟨m, h1, h2, h3, fun j a c d => ?_, h5⟩
        by_cases hj : j = k
        · rw [hj, hf] at d; cases d
        · exact h4 j (by omega) c d
    · rw [Bool.true_and]
      have hbet : (∃ j, be = some j ∧ ¬ K k < K j) ∨ (li_bet fe be k = true ∧ ∀ j, be = some j → K k < K j) := by
        cases be with
        | none => exact Or.inr ⟨rfl, fun j h => by cases h⟩
        | some j =>
          by_cases h : K k < K j
          · refine Or.inr ⟨?_, fun i hi => by cases hi; exact h⟩
            show li_bfr fe k j = true
            rw [hb k j (by omega) (hbe j rfl), decide_eq_true h]
          · exact Or.inl ⟨j, rfl, h⟩
      rcases hbet with ⟨j0, e0, hn0⟩ | ⟨ht, hlt⟩
      · have hbf : li_bet fe be k = false := by
          rw [e0]
          show li_bfr fe k j0 = false
          rw [hb k j0 (by omega) (hbe j0 e0), decide_eq_false hn0]
        rw [hbf, cond_false]
        rcases ih (k + 1) be (by omega) hbe with ⟨h1, h2, h3⟩ | ⟨m, h1, h2, h3, h4, h5⟩
        · rw [h2] at e0; cases e0
        · refine Or.inr ⟨m, h1, h2, h3, fun j a c d => ?_, h5⟩
          by_cases hj : j = k
          · have := h5 j0 e0
            rw [hj]; omega
          · exact h4 j (by omega) c d
      · rw [ht, cond_true]
        rcases ih (k + 1) (some k) (by omega) (fun j h => by cases h; omega) with ⟨h1, h2, h3⟩ | ⟨m, h1, h2, h3, h4, h5⟩
        · cases h2
        · have hkm := h5 k rfl
          refine Or.inr ⟨m, h1, h2, Or.inr ?_, fun j a c d => ?_, fun j hj => ?_⟩
          · rcases h3 with h3 | h3
            · cases h3; exact hf
            · exact h3
          · by_cases hj : j = k
            · rw [hj]; exact hkm
            · exact h4 j (by omega) c d
          · have := hlt j hj
            omega
/-- the next one behind one of them -/
theorem eq_nxt_s (hb : ∀ i j, i < n → j < n → li_bfr fe i j = decide (K i < K j)) (hK : ∀ i j, i < n → j < n → K i = K j → i = j) {k : Nat} (hk : k < n) (pk : li_due n fc fe dy k = true) (hr : eq_rk (li_due n fc fe dy) K n k + 1 < eq_cs (li_due n fc fe dy) n 0) :
    ∃ m, li_nxt n fc fe dy (some k) n 0 none = some m ∧ m < n ∧ li_due n fc fe dy m = true ∧ eq_rk (li_due n fc fe dy) K n m = eq_rk (li_due n fc fe dy) K n k + 1 := by
  have fol : ∀ j, j < n → li_fol n fc fe dy (some k) j = (li_due n fc fe dy j && decide (K k < K j)) := fun j hj => by
    show (li_due n fc fe dy j && li_bfr fe k j) = _
    rw [hb k j hk hj]
  rcases eq_nxt_ch (fc := fc) (dy := dy) hb (some k) n 0 none (by omega) (fun j h => by cases h) with ⟨h1, _, h3⟩ | ⟨m, h1, h2, h3, h4, _⟩
  · have := rk_hi (P := li_due n fc fe dy) hK hk pk (fun j hj pj h => by
      have := h3 j (by omega) hj
      rw [fol j hj, pj, decide_eq_true h] at this
      cases this)
    omega
  · rcases h3 with h3 | h3
    · cases h3
    · rw [fol m h2] at h3
      simp only [Bool.and_eq_true, decide_eq_true_eq] at h3
      exact ⟨m, h1, h2, h3.1, rk_nx hK hk pk h3.2 (fun j hj pj h => h4 j (by omega) hj (by rw [fol j hj, pj, decide_eq_true h]; rfl))⟩
theorem eq_nxt_n (hb : ∀ i j, i < n → j < n → li_bfr fe i j = decide (K i < K j)) (hr : 0 < eq_cs (li_due n fc fe dy) n 0) :
    ∃ m, li_nxt n fc fe dy none n 0 none = some m ∧ m < n ∧ li_due n fc fe dy m = true ∧ eq_rk (li_due n fc fe dy) K n m = 0 := by
  have fol : ∀ j, li_fol n fc fe dy none j = li_due n fc fe dy j := fun j => by
    show (li_due n fc fe dy j && true) = _
    rw [Bool.and_true]
  rcases eq_nxt_ch (fc := fc) (dy := dy) hb none n 0 none (by omega) (fun j h => by cases h) with ⟨h1, _, h3⟩ | ⟨m, h1, h2, h3, h4, _⟩
  · rw [cs_0 n 0 (fun j _ b => by rw [← fol j]; exact h3 j (by omega) (by omega))] at hr
    omega
  · rcases h3 with h3 | h3
    · cases h3
    · rw [fol m] at h3
      exact ⟨m, h1, h2, h3, rk_lo (fun j hj pj => h4 j (by omega) hj (by rw [fol j]; exact pj))⟩
theorem eq_it_s (hb : ∀ i j, i < n → j < n → li_bfr fe i j = decide (K i < K j)) (hK : ∀ i j, i < n → j < n → K i = K j → i = j) : ∀ (f k : Nat), k < n → li_due n fc fe dy k = true → eq_rk (li_due n fc fe dy) K n k + f < eq_cs (li_due n fc fe dy) n 0 →
    ∃ m, li_it n fc fe dy f (some k) = some m ∧ m < n ∧ li_due n fc fe dy m = true ∧ eq_rk (li_due n fc fe dy) K n m = eq_rk (li_due n fc fe dy) K n k + f := by
  intro f
  induction f with
  | zero => intro k hk pk _; exact ⟨k, rfl, hk, pk, rfl⟩
  | succ f ih =>
    intro k hk pk hr
    obtain ⟨m, h1, h2, h3, h4⟩ := eq_nxt_s hb hK hk pk (by omega)
    obtain ⟨m2, g1, g2, g3, g4⟩ := ih m h2 h3 (by omega)
    exact ⟨m2, by rw [li_it, h1]; exact g1, g2, g3, by omega⟩
theorem eq_it_n (hb : ∀ i j, i < n → j < n → li_bfr fe i j = decide (K i < K j)) (hK : ∀ i j, i < n → j < n → K i = K j → i = j) {i : Nat} (hr : i < eq_cs (li_due n fc fe dy) n 0) :
    ∃ m, li_it n fc fe dy (i + 1) none = some m ∧ m < n ∧ li_due n fc fe dy m = true ∧ eq_rk (li_due n fc fe dy) K n m = i := by
  obtain ⟨m, h1, h2, h3, h4⟩ := eq_nxt_n (fc := fc) (fe := fe) (dy := dy) hb (by omega)
  obtain ⟨m2, g1, g2, g3, g4⟩ := eq_it_s hb hK i m h2 h3 (by omega)
  exact ⟨m2, by rw [li_it, h1]; exact g1, g2, g3, by omega⟩
theorem eq_cnt : ∀ (f k c : Nat), li_cnt n fc fe dy f k c = c + eq_cs (li_due n fc fe dy) f k := by
  intro f
  induction f with
  | zero => intro k c; rfl
  | succ f ih =>
    intro k c
    rw [li_cnt, eq_cs, ih]
    cases li_due n fc fe dy k
    · simp only [cond_false]; omega
    · simp only [cond_true]; omega
end EQC
theorem eq_cb {gc ge : Nat → Int32} {x : Int32} {k : Nat} : ∀ (f j c : Nat), mo_cb gc ge x k f j c = c + eq_cs (mo_bf gc ge x k) f j := by
  intro f
  induction f with
  | zero => intro j c; rfl
  | succ f ih =>
    intro j c
    rw [mo_cb, eq_cs, ih]
    cases mo_bf gc ge x k j
    · simp only [cond_false]; omega
    · simp only [cond_true]; omega
