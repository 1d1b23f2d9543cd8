/-! bits (a family of kit/laws/BITS.to-paste), months by bits; words, numbers, claims, printing of the reference as functions -/
def bt (x : Int32) (i : Nat) : Bool := x.toBitVec.getLsbD i
theorem b_ext {x y : Int32} (h : ∀ i, i < 32 → bt x i = bt y i) : x = y := Int32.toBitVec_inj.mp (BitVec.eq_of_getLsbD_eq (fun i hi => h i hi))
theorem b_or (x y : Int32) (i : Nat) : bt (x ||| y) i = (bt x i || bt y i) := by unfold bt; rw [Int32.toBitVec_or, BitVec.getLsbD_or]
theorem b_and (x y : Int32) (i : Nat) : bt (x &&& y) i = (bt x i && bt y i) := by unfold bt; rw [Int32.toBitVec_and, BitVec.getLsbD_and]
theorem b_xor (x y : Int32) (i : Nat) : bt (x ^^^ y) i = (bt x i ^^ bt y i) := by unfold bt; rw [Int32.toBitVec_xor, BitVec.getLsbD_xor]
theorem b_big {x : Int32} {i : Nat} (h : 32 ≤ i) : bt x i = false := BitVec.getLsbD_of_ge _ _ h
theorem b_255 (i : Nat) : bt 255 i = decide (i < 8) := by
  rcases Nat.lt_or_ge i 32 with h | h
  · exact (by decide +kernel : ∀ i, i < 32 → bt 255 i = decide (i < 8)) i h
  · rw [b_big h, decide_eq_false (by omega)]
theorem b_65535 (i : Nat) : bt 65535 i = decide (i < 16) := by
  rcases Nat.lt_or_ge i 32 with h | h
  · exact (by decide +kernel : ∀ i, i < 32 → bt 65535 i = decide (i < 16)) i h
  · rw [b_big h, decide_eq_false (by omega)]
theorem b_m1 : ∀ i, i < 32 → bt (-1) i = true := by decide +kernel
theorem b_0 (i : Nat) : bt 0 i = false := BitVec.getLsbD_zero
theorem s_l : ∀ n, n < 32 → ((nI n &&& 31).toBitVec.smod 32).toNat = n := by decide +kernel
theorem s_u : ∀ n, n < 32 → (((nI n).toUInt32 &&& Int32.toUInt32 31).toBitVec % 32).toNat = n := by decide +kernel
theorem b_shl (n : Nat) (hn : n < 32) (x : Int32) {i : Nat} (hi : i < 32) : bt (x <<< (nI n &&& 31)) i = (decide (n ≤ i) && bt x (i - n)) := by
  unfold bt
  rw [Int32.toBitVec_shiftLeft]
  show (x.toBitVec <<< ((nI n &&& 31).toBitVec.smod 32).toNat).getLsbD i = _
  rw [s_l n hn, BitVec.getLsbD_shiftLeft]
  rcases Nat.lt_or_ge i n with h | h
  · simp [h, Nat.not_le.mpr h]
  · simp [hi, h, Nat.not_lt.mpr h]
theorem b_ushr (n : Nat) (hn : n < 32) (x : Int32) (i : Nat) : bt ((x.toUInt32 >>> ((nI n).toUInt32 &&& Int32.toUInt32 31)).toInt32) i = bt x (n + i) := by
  show (x.toUInt32 >>> ((nI n).toUInt32 &&& Int32.toUInt32 31)).toBitVec.getLsbD i = x.toUInt32.toBitVec.getLsbD (n + i)
  rw [UInt32.toBitVec_shiftRight]
  show (x.toUInt32.toBitVec >>> (((nI n).toUInt32 &&& Int32.toUInt32 31).toBitVec % 32).toNat).getLsbD i = _
  rw [s_u n hn, BitVec.getLsbD_ushiftRight]
theorem b_sshr (n : Nat) (hn : n < 32) (x : Int32) {i : Nat} (hi : i < 32) : bt (x >>> (nI n &&& 31)) i = if n + i < 32 then bt x (n + i) else bt x 31 := by
  unfold bt
  rw [Int32.toBitVec_shiftRight]
  show (x.toBitVec.sshiftRight ((nI n &&& 31).toBitVec.smod 32).toNat).getLsbD i = _
  rw [s_l n hn, BitVec.getLsbD_sshiftRight, BitVec.msb_eq_getLsbD_last]
  simp [hi]
theorem b_1 : ∀ i, i < 32 → bt 1 i = decide (i = 0) := by decide +kernel
theorem mo_bit (x : Int32) (j : Nat) (hj : j < 12) : (x >>> (nI j &&& 31)) &&& 1 = 0 ↔ x &&& ((1 : Int32) <<< (nI j &&& 31)) = 0 := by
  have h1 : (x >>> (nI j &&& 31)) &&& 1 = 0 ↔ bt x j = false := by
    constructor
    · intro h
      have h0 := congrArg (fun z => bt z 0) h
      simp only [b_and, b_0, b_sshr j (by omega) x (show 0 < 32 by omega), b_1 0 (by omega)] at h0
      simpa [show j < 32 by omega] using h0
    · intro h
      refine b_ext (fun i hi => ?_)
      rw [b_and, b_0, b_sshr j (by omega) x hi, b_1 i hi]
      by_cases h0 : i = 0
      · subst h0
        rw [if_pos (by omega), Nat.add_zero, h]; rfl
      · rw [decide_eq_false h0, Bool.and_false]
  have h2 : x &&& ((1 : Int32) <<< (nI j &&& 31)) = 0 ↔ bt x j = false := by
    constructor
    · intro h
      have h0 := congrArg (fun z => bt z j) h
      simp only [b_and, b_0, b_shl j (by omega) 1 (show j < 32 by omega), Nat.sub_self, b_1 0 (by omega)] at h0
      simpa using h0
    · intro h
      refine b_ext (fun i hi => ?_)
      rw [b_and, b_0, b_shl j (by omega) 1 hi]
      by_cases h0 : j ≤ i
      · rw [b_1 (i - j) (by omega)]
        by_cases h3 : i = j
        · subst h3; rw [h]; rfl
        · rw [decide_eq_false (show ¬ i - j = 0 by omega), Bool.and_false, Bool.and_false]
      · rw [decide_eq_false h0, Bool.false_and, Bool.and_false]
  exact h1.trans h2.symm
def mo_wd (t : Nat → Int32) (n pp : Nat) : Nat → Nat → Int64 → Int64
  | 0, _, v => v
  | f + 1, k, v => cond (mo_let (rd_sg t n k)) (mo_wd t n pp f (k + 1) (if 9 < k - pp then (-1) else if v < 0 then v else v * 32 + (rd_sg t n k).toInt64 - 96)) v
theorem mo_let_lt {t : Nat → Int32} {n k : Nat} (h : mo_let (rd_sg t n k) = true) : k < n := by
  unfold rd_sg at h
  by_cases hp : k < n
  · exact hp
  · rw [if_neg hp] at h
    exact absurd h (by decide)
theorem mo_wd_go {t : Nat → Int32} {n pp k : Nat} {v : Int64} (h : mo_let (rd_sg t n k) = true) : mo_wd t n pp (n - k) k v = mo_wd t n pp (n - (k + 1)) (k + 1) (if 9 < k - pp then (-1) else if v < 0 then v else v * 32 + (rd_sg t n k).toInt64 - 96) := by
  have hk := mo_let_lt h
  obtain ⟨f, hf⟩ : ∃ f, n - k = f + 1 := ⟨n - k - 1, by omega⟩
  rw [hf, show n - (k + 1) = f by omega, mo_wd, h]
  rfl
theorem mo_wd_0 {t : Nat → Int32} {n pp k : Nat} {v : Int64} (h : mo_let (rd_sg t n k) = false) : mo_wd t n pp (n - k) k v = v := by
  cases hf : n - k with
  | zero => rfl
  | succ f => rw [mo_wd, h]; rfl
theorem lg_ge0 {v : Int64} (h : 0 ≤ lg_cmp v 0) : ¬ v < 0 := Int64.not_lt.mpr ((lg_cmp_ge v 0).mp h)
theorem lg_lt0 {v : Int64} (h : ¬ 0 ≤ lg_cmp v 0) : v < 0 := Int64.not_le.mp (fun z => h ((lg_cmp_ge v 0).mpr z))
theorem lg_eq {x y : Int64} (h : lg_cmp x y = 0) : x = y := by
  unfold lg_cmp at h
  by_cases h1 : x > y
  · rw [if_pos h1] at h; exact absurd h (by decide)
  · rw [if_neg h1] at h
    by_cases h2 : x = y
    · exact h2
    · rw [if_neg h2] at h; exact absurd h (by decide)
theorem lg_ne {x y : Int64} (h : ¬ lg_cmp x y = 0) : ¬ x = y := fun e => by
  subst e
  exact h (by unfold lg_cmp; rw [if_neg (Int64.lt_irrefl), if_pos rfl])
def mo_en (t : Nat → Int32) (n : Nat) : Nat → Nat → Nat
  | 0, k => k
  | f + 1, k => cond (mo_let (rd_sg t n k)) (mo_en t n f (k + 1)) k
theorem mo_en_go {t : Nat → Int32} {n k : Nat} (h : mo_let (rd_sg t n k) = true) : mo_en t n (n - k) k = mo_en t n (n - (k + 1)) (k + 1) := by
  have hk := mo_let_lt h
  obtain ⟨f, hf⟩ : ∃ f, n - k = f + 1 := ⟨n - k - 1, by omega⟩
  rw [hf, show n - (k + 1) = f by omega, mo_en, h]
  rfl
theorem mo_en_0 {t : Nat → Int32} {n k : Nat} (h : mo_let (rd_sg t n k) = false) : mo_en t n (n - k) k = k := by
  cases hf : n - k with
  | zero => rfl
  | succ f => rw [mo_en, h]; rfl
theorem mo_en_le (t : Nat → Int32) (n : Nat) : ∀ (f k : Nat), k ≤ n → k ≤ mo_en t n f k ∧ mo_en t n f k ≤ n := by
  intro f
  induction f with
  | zero => intro k h; exact ⟨Nat.le_refl _, h⟩
  | succ f ih =>
    intro k h
    rw [mo_en]
    cases hl : mo_let (rd_sg t n k) with
    | false => exact ⟨Nat.le_refl _, h⟩
    | true => have := ih (k + 1) (mo_let_lt hl); exact ⟨Nat.le_trans (Nat.le_succ k) this.1, this.2⟩
def mo_dg (t : Nat → Int32) (n pp : Nat) : Nat → Nat → Nat → Nat × Nat
  | 0, k, v => (k, v)
  | f + 1, k, v => cond (rd_dig (rd_sg t n k)) (mo_dg t n pp f (k + 1) (if 2 < k - pp then 999 else 10 * v + rd_dv (rd_sg t n k))) (k, v)
theorem mo_dg_go {t : Nat → Int32} {n pp k v : Nat} (h : rd_dig (rd_sg t n k) = true) : mo_dg t n pp (n - k) k v = mo_dg t n pp (n - (k + 1)) (k + 1) (if 2 < k - pp then 999 else 10 * v + rd_dv (rd_sg t n k)) := by
  have hk := rd_dig_lt h
  obtain ⟨f, hf⟩ : ∃ f, n - k = f + 1 := ⟨n - k - 1, by omega⟩
  rw [hf, show n - (k + 1) = f by omega, mo_dg, h]
  rfl
theorem mo_dg_0 {t : Nat → Int32} {n pp k v : Nat} (h : rd_dig (rd_sg t n k) = false) : mo_dg t n pp (n - k) k v = (k, v) := by
  cases hf : n - k with
  | zero => rfl
  | succ f => rw [mo_dg, h]; rfl
/-- both ways of reading digits end at the same place -/
theorem dg_end_eq (t : Nat → Int32) (n pp : Nat) : ∀ (f k v w : Nat), (rd_dg t n f k v).1 = (mo_dg t n pp f k w).1 := by
  intro f
  induction f with
  | zero => intro k v w; rfl
  | succ f ih =>
    intro k v w
    rw [rd_dg, mo_dg]
    cases rd_dig (rd_sg t n k) with
    | false => rfl
    | true => exact ih _ _ _
theorem rd_dg_100 (t : Nat → Int32) (n : Nat) : ∀ (f k : Nat), (rd_dg t n f k 100).2 = 100 := by
  intro f
  induction f with
  | zero => intro k; rfl
  | succ f ih =>
    intro k
    rw [rd_dg]
    cases rd_dig (rd_sg t n k) with
    | false => rfl
    | true =>
      rw [show min (100 * 10 + rd_dv (rd_sg t n k)) 100 = 100 from Nat.min_eq_right (by omega)]
      exact ih _
/-- the reference's number, by the class's words -/
theorem mo_dg_eq {t : Nat → Int32} {n pp ee vv : Nat} (h : mo_dg t n pp (n - pp) pp 0 = (ee, vv)) : rd_end t n pp = ee ∧ (ee ≤ pp + 2 → rd_val t n pp = vv) ∧ (pp + 2 < ee → rd_sg t n pp = 48 ∨ rd_val t n pp = 100) := by
  have he : rd_end t n pp = ee := by
    unfold rd_end
    rw [dg_end_eq t n pp (n - pp) pp 0 0, h]
  refine ⟨he, ?_⟩
  unfold rd_val
  cases d0 : rd_dig (rd_sg t n pp) with
  | false =>
    rw [mo_dg_0 d0] at h
    cases h
    rw [rd_dg_end (Or.inr d0)]
    exact ⟨fun _ => rfl, fun z => by omega⟩
  | true =>
    have k0 := rd_dig_lt d0
    have b0 := rd_dv_eq d0
    rw [mo_dg_go d0, if_neg (by omega)] at h
    rw [rd_dg_go k0 d0, show min (0 * 10 + rd_dv (rd_sg t n pp)) 100 = 10 * 0 + rd_dv (rd_sg t n pp) by omega]
    cases d1 : rd_dig (rd_sg t n (pp + 1)) with
    | false =>
      rw [mo_dg_0 d1] at h
      cases h
      rw [rd_dg_end (Or.inr d1)]
      exact ⟨fun _ => rfl, fun z => by omega⟩
    | true =>
      have k1 := rd_dig_lt d1
      have b1 := rd_dv_eq d1
      rw [mo_dg_go d1, if_neg (by omega)] at h
      rw [rd_dg_go k1 d1, show min ((10 * 0 + rd_dv (rd_sg t n pp)) * 10 + rd_dv (rd_sg t n (pp + 1))) 100 = 10 * (10 * 0 + rd_dv (rd_sg t n pp)) + rd_dv (rd_sg t n (pp + 1)) by omega]
      cases d2 : rd_dig (rd_sg t n (pp + 1 + 1)) with
      | false =>
        rw [mo_dg_0 d2] at h
        cases h
        rw [rd_dg_end (Or.inr d2)]
        exact ⟨fun _ => rfl, fun z => by omega⟩
      | true =>
        have k2 := rd_dig_lt d2
        have b2 := rd_dv_eq d2
        rw [mo_dg_go d2] at h
        have hl : pp + 1 + 1 + 1 ≤ ee := by
          have h1 := (rd_dg_le t n (n - (pp + 1 + 1 + 1)) (pp + 1 + 1 + 1) 0 k2).1
          rw [dg_end_eq t n pp _ _ 0 (if 2 < pp + 1 + 1 - pp then 999 else 10 * (10 * (10 * 0 + rd_dv (rd_sg t n pp)) + rd_dv (rd_sg t n (pp + 1))) + rd_dv (rd_sg t n (pp + 1 + 1))), h] at h1
          exact h1
        refine ⟨fun z => by omega, fun _ => ?_⟩
        by_cases hz : rd_dv (rd_sg t n pp) = 0
        · left
          have := b0.1
          rw [hz] at this
          exact this
        · right
          rw [rd_dg_go k2 d2, show min ((10 * (10 * 0 + rd_dv (rd_sg t n pp)) + rd_dv (rd_sg t n (pp + 1))) * 10 + rd_dv (rd_sg t n (pp + 1 + 1))) 100 = 100 from Nat.min_eq_right (by omega)]
          exact rd_dg_100 t n _ _
def mo_bf (fc fe : Nat → Int32) (x : Int32) (k j : Nat) : Bool := mo_clm fc fe j x && (decide (mo_late fc fe k x < mo_late fc fe j x) || (decide (mo_late fc fe j x = mo_late fc fe k x) && decide (j < k)))
def mo_cb (fc fe : Nat → Int32) (x : Int32) (k : Nat) : Nat → Nat → Nat → Nat
  | 0, _, c => c
  | f + 1, j, c => mo_cb fc fe x k f (j + 1) (cond (mo_bf fc fe x k j) (c + 1) (c + 0))
theorem mo_cb_go {fc fe : Nat → Int32} {x : Int32} {k n j c : Nat} (h : j < n) : mo_cb fc fe x k (n - j) j c = mo_cb fc fe x k (n - (j + 1)) (j + 1) (cond (mo_bf fc fe x k j) (c + 1) (c + 0)) := by
  obtain ⟨f, hf⟩ : ∃ f, n - j = f + 1 := ⟨n - j - 1, by omega⟩
  rw [hf, show n - (j + 1) = f by omega, mo_cb]
theorem mo_cb_0 {fc fe : Nat → Int32} {x : Int32} {k n j c : Nat} (h : n ≤ j) : mo_cb fc fe x k (n - j) j c = c := by
  rw [show n - j = 0 by omega, mo_cb]
def mo_cl (fc fe : Nat → Int32) (ns : Nat) (x y : Int32) : Nat → Nat → Int32
  | 0, _ => (-1)
  | f + 1, k => if y < 0 then (-1) else cond (mo_day x) (cond (mo_clm fc fe k x) (if nI (mo_cb fc fe x k ns 0 0) = y then nI k else mo_cl fc fe ns x y f (k + 1)) (mo_cl fc fe ns x y f (k + 1))) (-1)
theorem mo_cl_go {fc fe : Nat → Int32} {ns n k : Nat} {x y : Int32} (h : k < n) : mo_cl fc fe ns x y (n - k) k = if y < 0 then (-1) else cond (mo_day x) (cond (mo_clm fc fe k x) (if nI (mo_cb fc fe x k ns 0 0) = y then nI k else mo_cl fc fe ns x y (n - (k + 1)) (k + 1)) (mo_cl fc fe ns x y (n - (k + 1)) (k + 1))) (-1) := by
  obtain ⟨f, hf⟩ : ∃ f, n - k = f + 1 := ⟨n - k - 1, by omega⟩
  rw [hf, show n - (k + 1) = f by omega, mo_cl]
theorem mo_cl_0 {fc fe : Nat → Int32} {ns n k : Nat} {x y : Int32} (h : n ≤ k) : mo_cl fc fe ns x y (n - k) k = (-1) := by
  rw [show n - k = 0 by omega, mo_cl]
/-- k signs copied from place o on -/
def mo_cp (kx : Nat → Int32) (o k : Nat) (kp : Nat → Int32) : Nat → Int32 := fun j => if j < k then kx (o + j) else kp j
theorem mo_cp_0 (kx : Nat → Int32) (o : Nat) (kp : Nat → Int32) : mo_cp kx o 0 kp = kp := by
  funext j
  exact if_neg (Nat.not_lt_zero j)
theorem mo_cp_go (kx : Nat → Int32) (o k : Nat) (kp : Nat → Int32) : upd (mo_cp kx o k kp) k (kx (o + k)) = mo_cp kx o (k + 1) kp := by
  funext j
  unfold upd mo_cp
  by_cases h : j = k
  · subst h; rw [if_pos rfl, if_pos (by omega)]
  · rw [if_neg h]
    by_cases h2 : j < k
    · rw [if_pos h2, if_pos (by omega)]
    · rw [if_neg h2, if_neg (by omega)]
