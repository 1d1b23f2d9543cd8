/-! class and reference agree: claim -/
theorem cs_ub {P : Nat → Bool} : ∀ (f k : Nat), eq_cs P f k ≤ f := by
  intro f
  induction f with
  | zero => intro k; exact Nat.le_refl _
  | succ f ih =>
    intro k
    have := ih (k + 1)
    rw [eq_cs]
    cases P k
    · simp only [cond_false]; omega
    · simp only [cond_true]; omega
theorem eq_mcl_s {gc ge : Nat → Int32} {n i m : Nat} {x : Int32} (hday : mo_day x = true) (hn : n ≤ 100) (hi : i < 2 ^ 31) (hm : m < n) (pm : mo_clm gc ge m x = true) (rm : mo_cb gc ge x m n 0 0 = i) (hu : ∀ k, k < n → mo_clm gc ge k x = true → mo_cb gc ge x k n 0 0 = i → k = m) : ∀ (f k : Nat), k + f = n → k ≤ m → mo_cl gc ge n x (nI i) f k = nI m := by
  intro f
  induction f with
  | zero => intro k a b; omega
  | succ f ih =>
    intro k a b
    have hcb : mo_cb gc ge x k n 0 0 ≤ n := by rw [eq_cb, Nat.zero_add]; exact cs_ub n 0
    rw [mo_cl, if_neg (nI_pos hi), hday, cond_true]
    by_cases hk : k = m
    · rw [hk, pm, cond_true, rm, if_pos rfl]
    · cases hp : mo_clm gc ge k x
      · rw [cond_false]; exact ih (k + 1) (by omega) (by omega)
      · rw [cond_true, if_neg (fun h => hk (hu k (by omega) hp ((nI_eq (by omega) hi).mp h)))]
        exact ih (k + 1) (by omega) (by omega)
theorem eq_mcl_n {gc ge : Nat → Int32} {n i : Nat} {x : Int32} (hn : n ≤ 100) (hi : i < 2 ^ 31) (hu : ∀ k, k < n → mo_clm gc ge k x = true → mo_cb gc ge x k n 0 0 ≠ i) : ∀ (f k : Nat), k + f = n → mo_cl gc ge n x (nI i) f k = (-1) := by
  intro f
  induction f with
  | zero => intro k _; rfl
  | succ f ih =>
    intro k a
    have hcb : mo_cb gc ge x k n 0 0 ≤ n := by rw [eq_cb, Nat.zero_add]; exact cs_ub n 0
    rw [mo_cl, if_neg (nI_pos hi)]
    cases mo_day x
    · rfl
    · rw [cond_true]
      cases hp : mo_clm gc ge k x
      · rw [cond_false]; exact ih (k + 1) (by omega)
      · rw [cond_true, if_neg (fun h => hu k (by omega) hp ((nI_eq (by omega) hi).mp h))]
        exact ih (k + 1) (by omega)
theorem eq_late {gc ge : Nat → Int32} {k d e : Nat} (hc : gc k = (-1)) (hd : ge k = nI d) (h1 : d ≤ 1000000) (h2 : e ≤ 1000000) : mo_late gc ge k (nI e) = nI (e - d) := by
  unfold mo_late
  rw [if_pos hc, hd]
  by_cases h : d < e
  · rw [pk_sub (by omega), if_pos]
    rw [← nI_0]
    exact nI_lt (by omega) (by omega)
  · rw [if_neg, show e - d = 0 by omega, nI_0]
    by_cases h3 : d = e
    · rw [h3, pk_sub (Nat.le_refl _), Nat.sub_self, nI_0]
      decide
    · have := pk_sneg (a := e) (b := d) (by omega) (by omega)
      intro h4
      rw [Int32.lt_iff_toInt_lt] at this h4
      omega
theorem eq_clm {n : Nat} {fc fe gc ge : Nat → Int32} {k d e : Nat} (hk : k < n) (hc : fc k = gc k) (he : fe k = ge k) (hd : ge k = nI d) (h1 : d ≤ 1000000) (h2 : e ≤ 1000000) : mo_clm gc ge k (nI e) = li_due n fc fe (nI e) k := by
  unfold mo_clm li_due
  rw [decide_eq_true hk, Bool.true_and, hc, he]
  by_cases h : gc k = (-1)
  · rw [eq_late h hd h1 h2, hd]
    congr 1
    refine decide_eq_decide.mpr ?_
    rw [nI_ltI (by omega) (by omega), ← nI_0, nI_ltI (by omega) (by omega)]
    omega
  · rw [decide_eq_false h, Bool.false_and, Bool.false_and]
/-- the key by which claims stand in order -/
def eq_K (fe : Nat → Int32) (k : Nat) : Nat := (fe k).toNatClampNeg * 1000 + k
theorem eq_claim {n : Nat} {fc fe gc ge : Nat → Int32} (hn : n ≤ 100) (hc : ∀ k, k < n → fc k = gc k) (he : ∀ k, k < n → fe k = ge k) (hd : ∀ k, k < n → ∃ d, d ≤ 1000000 ∧ ge k = nI d) (x y : Int32) :
    cond (mo_day x && (decide (0 ≤ y) && decide (y < nI (li_cnt n fc fe x n 0 0)))) (pt_oi (li_it n fc fe x (y.toNatClampNeg + 1) none)) (-1) = mo_cl gc ge n x y n 0 := by
  cases hday : mo_day x
  · rw [Bool.false_and, cond_false]
    cases n with
    | zero => rfl
    | succ n =>
      rw [mo_cl, hday, cond_false]
      split <;> rfl
  · obtain ⟨e, he6, rfl⟩ := mo_day_of hday
    rw [Bool.true_and]
    by_cases hy : y < 0
    · rw [decide_eq_false (Int32.not_le.mpr hy), Bool.false_and, cond_false]
      cases n with
      | zero => rfl
      | succ n => rw [mo_cl, if_pos hy]
    · obtain ⟨i, hi, rfl⟩ := nI_of hy
      rw [decide_eq_true (nI_pos' hi), Bool.true_and, nI_clamp hi, eq_cnt, Nat.zero_add]
      have hD : ∀ k, k < n → ∃ d, d ≤ 1000000 ∧ fe k = nI d := fun k hk => by rw [he k hk]; exact hd k hk
      have hKv : ∀ k d, d ≤ 1000000 → fe k = nI d → eq_K fe k = d * 1000 + k := fun k d h1 h2 => by
        unfold eq_K; rw [h2, nI_clamp (by omega)]
      have hK : ∀ i j, i < n → j < n → eq_K fe i = eq_K fe j → i = j := fun a b ha hb h => by
        unfold eq_K at h; omega
      have hb : ∀ i j, i < n → j < n → li_bfr fe i j = decide (eq_K fe i < eq_K fe j) := fun a b ha hb => by
        obtain ⟨da, a1, a2⟩ := hD a ha
        obtain ⟨db, b1, b2⟩ := hD b hb
        rw [hKv a da a1 a2, hKv b db b1 b2]
        unfold li_bfr
        rw [a2, b2]
        by_cases h : da = db
        · rw [h, if_pos rfl]
          exact decide_eq_decide.mpr (by omega)
        · rw [if_neg (fun z => h ((nI_eq (by omega) (by omega)).mp z))]
          exact decide_eq_decide.mpr (by rw [nI_ltI (by omega) (by omega)]; omega)
      have hP : ∀ k, k < n → mo_clm gc ge k (nI e) = li_due n fc fe (nI e) k := fun k hk => by
        obtain ⟨d, h1, h2⟩ := hd k hk
        exact eq_clm hk (hc k hk) (he k hk) h2 h1 he6
      have hR : ∀ k, k < n → li_due n fc fe (nI e) k = true → mo_cb gc ge (nI e) k n 0 0 = eq_rk (li_due n fc fe (nI e)) (eq_K fe) n k := fun k hk pk => by
        rw [eq_cb, Nat.zero_add]
        refine cs_congr n 0 (fun j _ hj => ?_)
        have hj : j < n := by omega
        show mo_bf gc ge (nI e) k j = (li_due n fc fe (nI e) j && decide (eq_K fe j < eq_K fe k))
        unfold mo_bf
        rw [hP j hj]
        cases pj : li_due n fc fe (nI e) j
        · rfl
        · rw [Bool.true_and, Bool.true_and]
          obtain ⟨dj, j1, j2⟩ := hd j hj
          obtain ⟨dk, k1, k2⟩ := hd k hk
          have cj : gc j = (-1) := by
            simp only [li_due, Bool.and_eq_true, decide_eq_true_eq] at pj
            rw [← hc j hj]; exact pj.1.2
          have ck : gc k = (-1) := by
            simp only [li_due, Bool.and_eq_true, decide_eq_true_eq] at pk
            rw [← hc k hk]; exact pk.1.2
          have lj : dj < e := by
            simp only [li_due, Bool.and_eq_true, decide_eq_true_eq] at pj
            have := pj.2
            rw [he j hj, j2] at this
            exact (nI_ltI (by omega) (by omega)).mp this
          have lk : dk < e := by
            simp only [li_due, Bool.and_eq_true, decide_eq_true_eq] at pk
            have := pk.2
            rw [he k hk, k2] at this
            exact (nI_ltI (by omega) (by omega)).mp this
          rw [eq_late cj j2 j1 he6, eq_late ck k2 k1 he6, hKv j dj j1 (by rw [he j hj, j2]), hKv k dk k1 (by rw [he k hk, k2]), Bool.eq_iff_iff]
          simp only [Bool.or_eq_true, Bool.and_eq_true, decide_eq_true_eq]
          rw [nI_ltI (by omega) (by omega), nI_eq (by omega) (by omega)]
          omega
      have hub := cs_ub (P := li_due n fc fe (nI e)) n 0
      by_cases hlt : i < eq_cs (li_due n fc fe (nI e)) n 0
      · rw [decide_eq_true ((nI_ltI hi (by omega)).mpr hlt), cond_true]
        obtain ⟨m, h1, h2, h3, h4⟩ := eq_it_n hb hK hlt
        rw [h1]
        symm
        exact eq_mcl_s hday hn hi h2 (by rw [hP m h2]; exact h3) (by rw [hR m h2 h3, h4]) (fun k hk pk hr => by
          rw [hP k hk] at pk
          rw [hR k hk pk] at hr
          exact rk_inj hK hk pk h2 h3 (by rw [hr, h4])) n 0 (by omega) (by omega)
      · rw [decide_eq_false (fun h => hlt ((nI_ltI hi (by omega)).mp h)), cond_false]
        symm
        refine eq_mcl_n hn hi (fun k hk pk hr => ?_) n 0 (by omega)
        rw [hP k hk] at pk
        rw [hR k hk pk] at hr
        have := rk_lt hK hk pk
        omega
