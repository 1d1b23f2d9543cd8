/-! class and reference agree: holidays -/
/-- the class's holidays hd go up, the reference's hm stand as they came -/
def eq_H (hd hm : Nat → Int32) (hc : Nat) : Prop := hc ≤ 60 ∧ (∀ k, k < hc → ∃ d, d ≤ 1000000 ∧ hd k = nI d) ∧ (∀ i j, i < j → j < hc → hd i < hd j) ∧ ∀ x, (∃ j, j < hc ∧ hd j = x) ↔ ∃ j, j < hc ∧ hm j = x
theorem eq_nx_ch {h : Nat → Int32} : ∀ (f k x : Nat), x + f < 2 ^ 31 → (∀ i j, k ≤ i → i < j → j < k + f → h i < h j) → (∀ z, x ≤ z → z < ho_nx h f k x → ∃ j, k ≤ j ∧ j < k + f ∧ h j = nI z) ∧ ¬ ∃ j, k ≤ j ∧ j < k + f ∧ h j = nI (ho_nx h f k x) := by
  intro f
  induction f with
  | zero =>
    intro k x _ _
    refine ⟨fun z h1 h2 => absurd h2 ?_, ?_⟩
    · rw [ho_nx]; omega
    · rintro ⟨j, h1, h2, _⟩; omega
  | succ f ih =>
    intro k x hx hs
    have hle := ho_nx_le (h := h) (f + 1) k x
    rw [ho_nx] at hle ⊢
    by_cases hc : h k = nI x
    · rw [if_pos hc] at hle ⊢
      obtain ⟨i1, i2⟩ := ih (k + 1) (x + 1) (by omega) (fun i j a b c => hs i j (by omega) b (by omega))
      have hl2 := ho_nx_le (h := h) f (k + 1) (x + 1)
      refine ⟨fun z h1 h2 => ?_, ?_⟩
      · by_cases hz : z = x
        · exact ⟨k, by omega, by omega, by rw [hz]; exact hc⟩
        · obtain ⟨j, a, b, c⟩ := i1 z (by omega) h2
          exact ⟨j, by omega, by omega, c⟩
      · rintro ⟨j, a, b, c⟩
        by_cases hj : j = k
        · rw [hj, hc] at c
          have := (nI_eq (by omega) (by omega)).mp c
          omega
        · exact i2 ⟨j, by omega, by omega, c⟩
    · rw [if_neg hc] at hle ⊢
      obtain ⟨i1, i2⟩ := ih (k + 1) x (by omega) (fun i j a b c => hs i j (by omega) b (by omega))
      have hl2 := ho_nx_le (h := h) f (k + 1) x
      refine ⟨fun z h1 h2 => ?_, ?_⟩
      · obtain ⟨j, a, b, c⟩ := i1 z h1 h2
        exact ⟨j, by omega, by omega, c⟩
      · rintro ⟨j, a, b, c⟩
        by_cases hj : j = k
        · rw [hj] at c
          by_cases hy : ho_nx h f (k + 1) x = x
          · exact hc (by rw [c, hy])
          · obtain ⟨j2, a2, b2, c2⟩ := i1 x (Nat.le_refl _) (by omega)
            have h5 := hs k j2 (Nat.le_refl _) (by omega) (by omega)
            rw [c, c2] at h5
            have := (nI_ltI (by omega) (by omega)).mp h5
            omega
        · exact i2 ⟨j, by omega, by omega, c⟩
theorem eq_fr_ch {hm : Nat → Int32} {hc : Nat} (hh : ∀ k, k < hc → hm k ≤ 1000000) : ∀ (n e : Nat), e + n < 2 ^ 31 → (∀ z, e ≤ z → z < e + n → ∃ j, j < hc ∧ hm j = nI z) → (¬ ∃ j, j < hc ∧ hm j = nI (e + n)) → mo_fr hm hc (1000001 - e) e = e + n := by
  intro n
  induction n with
  | zero =>
    intro e _ _ h2
    refine mo_fr_0 (Bool.eq_false_iff.mpr fun h => ?_)
    rcases (mo_hol_ex hm (nI e) hc 0 false).mp h with h | ⟨j, _, b, c⟩
    · cases h
    · exact h2 ⟨j, by omega, c⟩
  | succ n ih =>
    intro e he h1 h2
    obtain ⟨j, a, b⟩ := h1 e (Nat.le_refl _) (by omega)
    have hT : mo_hol hm (nI e) hc 0 false = true := (mo_hol_ex hm (nI e) hc 0 false).mpr (Or.inr ⟨j, by omega, by omega, b⟩)
    rw [mo_fr_go (mo_hol_le (by omega) hh hT) hT, ih (e + 1) (by omega) (fun z a b => h1 z (by omega) (by omega)) (by rw [show e + 1 + n = e + (n + 1) by omega]; exact h2)]
    omega
theorem eq_H.m {hd hm : Nat → Int32} {hc : Nat} (H : eq_H hd hm hc) : ∀ k, k < hc → hm k ≤ 1000000 := by
  intro k hk
  obtain ⟨j, h1, h2⟩ := (H.2.2.2 (hm k)).mpr ⟨k, hk, rfl⟩
  obtain ⟨d, h3, h4⟩ := H.2.1 j h1
  rw [← h2, h4]
  exact (nI_leI (b := 1000000) (by omega) (by omega)).mpr h3
/-- the next day that is no holiday is the same one -/
theorem eq_nx {hd hm : Nat → Int32} {hc e : Nat} (H : eq_H hd hm hc) (he : e < 2 ^ 30) : mo_fr hm hc (1000001 - e) e = ho_nx hd hc 0 e := by
  have h0 := H.1
  obtain ⟨h1, h2⟩ := eq_nx_ch (h := hd) hc 0 e (by omega) (fun i j _ b c => H.2.2.1 i j b (by omega))
  have hl := ho_nx_le (h := hd) hc 0 e
  have := eq_fr_ch H.m (ho_nx hd hc 0 e - e) e (by omega) (fun z a b => by
    obtain ⟨j, _, c, d⟩ := h1 z a (by omega)
    exact (H.2.2.2 _).mp ⟨j, by omega, d⟩) (fun h => by
    rw [show e + (ho_nx hd hc 0 e - e) = ho_nx hd hc 0 e by omega] at h
    obtain ⟨j, c, d⟩ := (H.2.2.2 _).mpr h
    exact h2 ⟨j, by omega, by omega, d⟩)
  rw [this]
  omega
/-- is it a holiday already: both say the same -/
theorem eq_hol {hd hm : Nat → Int32} {hc e : Nat} (H : eq_H hd hm hc) (he : e < 2 ^ 30) : mo_hol hm (nI e) hc 0 false = !decide (ho_nx hd hc 0 e = e) := by
  have h0 := H.1
  obtain ⟨h1, h2⟩ := eq_nx_ch (h := hd) hc 0 e (by omega) (fun i j _ b c => H.2.2.1 i j b (by omega))
  have hl := ho_nx_le (h := hd) hc 0 e
  by_cases h : ho_nx hd hc 0 e = e
  · rw [decide_eq_true h]
    rw [h] at h2
    refine Bool.eq_false_iff.mpr fun hT => ?_
    rcases (mo_hol_ex hm (nI e) hc 0 false).mp hT with hT | ⟨j, _, b, c⟩
    · cases hT
    · obtain ⟨i, c1, c2⟩ := (H.2.2.2 _).mpr ⟨j, by omega, c⟩
      exact h2 ⟨i, by omega, by omega, c2⟩
  · rw [decide_eq_false h]
    obtain ⟨j, _, c, d⟩ := h1 e (Nat.le_refl _) (by omega)
    obtain ⟨i, c1, c2⟩ := (H.2.2.2 _).mp ⟨j, by omega, d⟩
    exact (mo_hol_ex hm (nI e) hc 0 false).mpr (Or.inr ⟨i, by omega, by omega, c2⟩)
theorem upd_eq (f : Nat → Int32) (k : Nat) (v : Int32) : upd f k v k = v := if_pos rfl
theorem upd_ne (f : Nat → Int32) {k j : Nat} (v : Int32) (h : j ≠ k) : upd f k v j = f j := if_neg h
theorem eq_ins_ch (d : Int32) : ∀ (p : Nat) (h : Nat → Int32), (ho_ins d p h).1 ≤ p ∧ (∀ j, j < (ho_ins d p h).1 → (ho_ins d p h).2 j = h j) ∧ (∀ j, (ho_ins d p h).1 < j → j ≤ p → (ho_ins d p h).2 j = h (j - 1)) ∧ ((ho_ins d p h).1 = 0 ∨ h ((ho_ins d p h).1 - 1) ≤ d) ∧ (∀ j, (ho_ins d p h).1 ≤ j → j < p → d < h j) ∧ ∀ j, p < j → (ho_ins d p h).2 j = h j := by
  intro p
  induction p with
  | zero =>
    intro h
    exact ⟨Nat.le_refl _, fun j _ => rfl, fun j a b => absurd (show 0 < j from a) (by omega), Or.inl rfl, fun j _ b => absurd b (by omega), fun j _ => rfl⟩
  | succ p ih =>
    intro h
    rw [ho_ins]
    by_cases hc : h p ≤ d
    · rw [if_pos hc]
      exact ⟨Nat.le_refl _, fun j _ => rfl, fun j a b => absurd (show p + 1 < j from a) (by omega), Or.inr hc, fun j a b => absurd (show p + 1 ≤ j from a) (by omega), fun j _ => rfl⟩
    · rw [if_neg hc]
      obtain ⟨i1, i2, i3, i4, i5, i6⟩ := ih (upd h (p + 1) (h p))
      refine ⟨by omega, fun j hj => ?_, fun j a b => ?_, ?_, fun j a b => ?_, fun j hj => ?_⟩
      · rw [i2 j hj, upd_ne _ _ (by omega)]
      · by_cases hj : j = p + 1
        · rw [i6 j (by omega), hj, upd_eq]; rfl
        · rw [i3 j a (by omega), upd_ne _ _ (by omega)]
      · rcases i4 with i4 | i4
        · exact Or.inl i4
        · by_cases h0 : (ho_ins d p (upd h (p + 1) (h p))).1 = 0
          · exact Or.inl h0
          · rw [upd_ne _ _ (by omega)] at i4
            exact Or.inr i4
      · by_cases hj : j = p
        · rw [hj]; exact Int32.not_le.mp hc
        · have := i5 j a (by omega)
          rw [upd_ne _ _ (by omega)] at this
          exact this
      · rw [i6 j (by omega), upd_ne _ _ (by omega)]
theorem eq_lt_tr {a b c : Int32} (h1 : a < b) (h2 : b < c) : a < c := by
  rw [Int32.lt_iff_toInt_lt] at *; omega
theorem eq_le_tr {a b c : Int32} (h1 : a < b) (h2 : b ≤ c) : a < c := by
  rw [Int32.lt_iff_toInt_lt] at *; rw [Int32.le_iff_toInt_le] at h2; omega
theorem eq_le_ne {a b : Int32} (h1 : a ≤ b) (h2 : a ≠ b) : a < b := by
  rw [Int32.lt_iff_toInt_lt]; rw [Int32.le_iff_toInt_le] at h1
  have : a.toInt ≠ b.toInt := fun h => h2 (Int32.toInt_inj.mp h)
  omega
/-- a new holiday: both lists hold it -/
theorem eq_ins {hd hm : Nat → Int32} {hc e : Nat} (H : eq_H hd hm hc) (he : e ≤ 1000000) (hc6 : hc < 60) (hn : ho_nx hd hc 0 e = e) : eq_H (upd (ho_ins (nI e) hc hd).2 (ho_ins (nI e) hc hd).1 (nI e)) (upd hm hc (nI e)) (hc + 1) := by
  have hno : ¬ ∃ j, j < hc ∧ hd j = nI e := by
    rintro ⟨j, a, b⟩
    have h2 := (eq_nx_ch (h := hd) hc 0 e (by omega) (fun i j _ b c => H.2.2.1 i j b (by omega))).2
    rw [hn] at h2
    exact h2 ⟨j, by omega, by omega, b⟩
  obtain ⟨i1, i2, i3, i4, i5, i6⟩ := eq_ins_ch (nI e) hc hd
  generalize hq : (ho_ins (nI e) hc hd).1 = q at *
  generalize hg : (ho_ins (nI e) hc hd).2 = g at *
  have lo : ∀ j, j < q → hd j < nI e := by
    intro j hj
    have h5 : hd (q - 1) < nI e := eq_le_ne (by rcases i4 with h | h; · omega
                                                · exact h) (fun h => hno ⟨q - 1, by omega, h⟩)
    by_cases hj2 : j = q - 1
    · rw [hj2]; exact h5
    · exact eq_lt_tr (H.2.2.1 j (q - 1) (by omega) (by omega)) h5
  have at_ : ∀ j, j ≤ hc → upd g q (nI e) j = if j < q then hd j else if j = q then nI e else hd (j - 1) := by
    intro j hj
    by_cases h1 : j < q
    · rw [if_pos h1, upd_ne _ _ (by omega), i2 j h1]
    · rw [if_neg h1]
      by_cases h2 : j = q
      · rw [if_pos h2, h2, upd_eq]
      · rw [if_neg h2, upd_ne _ _ h2, i3 j (by omega) hj]
  refine ⟨by omega, fun k hk => ?_, fun i j hij hj => ?_, fun x => ⟨?_, ?_⟩⟩
  · rw [at_ k (by omega)]
    split
    · exact H.2.1 k (by omega)
    · split
      · exact ⟨e, he, rfl⟩
      · exact H.2.1 (k - 1) (by omega)
  · rw [at_ i (by omega), at_ j (by omega)]
    by_cases a1 : i < q
    · rw [if_pos a1]
      by_cases b1 : j < q
      · rw [if_pos b1]; exact H.2.2.1 i j hij (by omega)
      · rw [if_neg b1]
        by_cases b2 : j = q
        · rw [if_pos b2]; exact lo i a1
        · rw [if_neg b2]; exact H.2.2.1 i (j - 1) (by omega) (by omega)
    · rw [if_neg a1, if_neg (by omega : ¬ j < q), if_neg (by omega : ¬ j = q)]
      by_cases a2 : i = q
      · rw [if_pos a2]; exact i5 (j - 1) (by omega) (by omega)
      · rw [if_neg a2]; exact H.2.2.1 (i - 1) (j - 1) (by omega) (by omega)
  · rintro ⟨j, hj, rfl⟩
    rw [at_ j (by omega)]
    split
    · obtain ⟨k, a, b⟩ := (H.2.2.2 (hd j)).mp ⟨j, by omega, rfl⟩
      exact ⟨k, by omega, by rw [upd_ne _ _ (by omega), b]⟩
    · split
      · exact ⟨hc, by omega, upd_eq _ _ _⟩
      · obtain ⟨k, a, b⟩ := (H.2.2.2 (hd (j - 1))).mp ⟨j - 1, by omega, rfl⟩
        exact ⟨k, by omega, by rw [upd_ne _ _ (by omega), b]⟩
  · rintro ⟨j, hj, rfl⟩
    by_cases hjc : j = hc
    · exact ⟨q, by omega, by rw [at_ q (by omega), if_neg (by omega), if_pos rfl, hjc, upd_eq]⟩
    · rw [upd_ne _ _ hjc]
      obtain ⟨k, a, b⟩ := (H.2.2.2 (hm j)).mpr ⟨j, by omega, rfl⟩
      by_cases hk : k < q
      · exact ⟨k, by omega, by rw [at_ k (by omega), if_pos hk, b]⟩
      · exact ⟨k + 1, by omega, by rw [at_ (k + 1) (by omega), if_neg (by omega), if_neg (by omega), show k + 1 - 1 = k by omega, b]⟩
theorem eq_H0 (hm : Nat → Int32) (hd : Nat → Int32) : eq_H hd hm 0 :=
  ⟨by omega, fun k h => absurd h (by omega), fun i j _ h => absurd h (by omega), fun x => ⟨fun ⟨j, h, _⟩ => absurd h (by omega), fun ⟨j, h, _⟩ => absurd h (by omega)⟩⟩
