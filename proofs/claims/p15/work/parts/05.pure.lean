/-! what the class does, as functions: the reader of signs t, n of them -/
def rd_sg (t : Nat → Int32) (n k : Nat) : Int32 := if k < n then t k else (-1)
def rd_dig (x : Int32) : Bool := decide (48 ≤ x) && decide (x ≤ 57)
def rd_let (x : Int32) : Bool := (decide (97 ≤ x) && decide (x ≤ 122)) || (decide (65 ≤ x) && decide (x ≤ 90))
def rd_sp (t : Nat → Int32) (n p : Nat) : Bool := decide (rd_sg t n p = 32)
def rd_eqw (t : Nat → Int32) (n p : Nat) (w : Nat → Int32) (L : Nat) : Bool := decide (∀ j, j < L → rd_sg t n (p + j) = w j)
def rd_word (t : Nat → Int32) (n p : Nat) (w : Nat → Int32) (L : Nat) : Bool := decide (p + L ≤ n) && (!rd_let (rd_sg t n (p + L)) && rd_eqw t n p w L)
def rd_next (t : Nat → Int32) (n p : Nat) (w : Nat → Int32) (L : Nat) : Bool := rd_sp t n p && rd_word t n (p + 1) w L
def rd_dv (x : Int32) : Nat := x.toNatClampNeg - 48
/-- digits from k on: where they end, their number kept at most 100 -/
def rd_dg (t : Nat → Int32) (n : Nat) : Nat → Nat → Nat → Nat × Nat
  | 0, k, v => (k, v)
  | f + 1, k, v => cond (rd_dig (rd_sg t n k)) (rd_dg t n f (k + 1) (min (v * 10 + rd_dv (rd_sg t n k)) 100)) (k, v)
def rd_end (t : Nat → Int32) (n p : Nat) : Nat := (rd_dg t n (n - p) p 0).1
def rd_val (t : Nat → Int32) (n p : Nat) : Nat := (rd_dg t n (n - p) p 0).2
def rd_num (t : Nat → Int32) (n lo hi p : Nat) : Bool := !decide (rd_end t n p = p) && (!(decide (rd_sg t n p = 48) && decide (1 < rd_end t n p - p)) && (decide (lo ≤ rd_val t n p) && decide (rd_val t n p ≤ hi)))
/-- months: right?, place, number, those left out -/
def rd_mon (t : Nat → Int32) (n : Nat) : Nat → Nat → Nat → Int32 → Int32 → Bool × Nat × Int32 × Int32
  | 0, _, p, nu, mo => (false, p, nu, mo)
  | f + 1, lo, p, nu, mo => cond (rd_num t n lo 11 p)
      (cond (decide (rd_sg t n (rd_end t n p) = 44))
        (rd_mon t n f (rd_val t n p + 1) (rd_end t n p + 1) (nI (rd_val t n p)) (mo ||| ((1 : Int32) <<< (nI (rd_val t n p) &&& 31))))
        (true, rd_end t n p, nI (rd_val t n p), mo ||| ((1 : Int32) <<< (nI (rd_val t n p) &&& 31))))
      (false, p, nu, mo)
/-- the steps of a pattern -/
def pt_on (mo : Int32) (x : Nat) : Bool := decide (mo &&& ((1 : Int32) <<< (nI (x / 30 % 12) &&& 31)) = 0)
def pt_sw (sd : Nat) (mo : Int32) (d : Nat) : Nat → Nat → Option Nat
  | 0, _ => none
  | f + 1, x => if d + 1800 ≤ x ∨ 1000000 < x then none else cond (pt_on mo x) (some x) (pt_sw sd mo d f (x + sd))
def pt_oi (o : Option Nat) : Int32 := match o with
  | none => (-1)
  | some x => nI x
def pt_yr (sd : Nat) (mo : Int32) (d : Nat) : Nat → Nat → Nat → Nat
  | 0, _, c => c
  | f + 1, x, c => if x < d + 360 then pt_yr sd mo d f (x + sd) (cond (pt_on mo x) (c + 1) c) else c
def pt_nums (jo : Nat) (k : Nat) : Nat := if 0 < jo ∧ k % jo = 0 then 2 else 1
def pt_vol (vo k : Nat) : Nat := if 0 < vo then (k - 1) / vo + 1 else 0
def pt_told (re : Bool) (vo k : Nat) : Nat := if re = true ∧ 0 < vo then (k - 1) % vo + 1 else k
/-- the holidays, going up: the day itself, or the next one that is none -/
def ho_from (h : Nat → Int32) : Nat → Nat → Int32 → Int32
  | 0, _, x => x
  | f + 1, k, x => ho_from h f (k + 1) (if h k = x then x + 1 else x)
theorem rd_sp_lt {tx : Nat → Int32} {n p : Nat} (h : rd_sp tx n p = true) : p < n := by
  unfold rd_sp rd_sg at h
  by_cases hp : p < n
  · exact hp
  · rw [if_neg hp] at h
    exact absurd h (by decide)
theorem rd_dig_lt {tx : Nat → Int32} {n p : Nat} (h : rd_dig (rd_sg tx n p) = true) : p < n := by
  unfold rd_sg at h
  by_cases hp : p < n
  · exact hp
  · rw [if_neg hp] at h
    exact absurd h (by decide)
theorem rd_word_le {tx : Nat → Int32} {n p : Nat} {w : Nat → Int32} {L : Nat} (h : rd_word tx n p w L = true) : p + L ≤ n := by
  simp only [rd_word, Bool.and_eq_true, decide_eq_true_eq] at h
  exact h.1
theorem rd_dv_eq {x : Int32} (h : rd_dig x = true) : x = nI (rd_dv x + 48) ∧ rd_dv x ≤ 9 := by
  simp only [rd_dig, Bool.and_eq_true, decide_eq_true_eq, Int32.le_iff_toInt_le, Int32.reduceToInt] at h
  obtain ⟨j, hj, e⟩ := nI_of (x := x) (by rw [Int32.lt_iff_toInt_lt]; simp only [Int32.reduceToInt]; omega)
  subst e
  rw [nI_toInt hj] at h
  unfold rd_dv
  rw [nI_clamp hj]
  constructor
  · congr 1; omega
  · omega
theorem rd_min (a : Nat) (ha : a < 2 ^ 31) : (if (100 : Int32) < nI a then (100 : Int32) else nI a) = nI (min a 100) := by
  by_cases h : 100 < a
  · rw [if_pos (show (100 : Int32) < nI a from (nI_ltI (a := 100) (by omega) ha).mpr h), Nat.min_eq_right (by omega)]; rfl
  · rw [if_neg (show ¬ (100 : Int32) < nI a from fun z => h ((nI_ltI (a := 100) (by omega) ha).mp z)), Nat.min_eq_left (by omega)]
theorem rd_dg_go {tx : Nat → Int32} {n k v : Nat} (hk : k < n) (h : rd_dig (rd_sg tx n k) = true) : rd_dg tx n (n - k) k v = rd_dg tx n (n - (k + 1)) (k + 1) (min (v * 10 + rd_dv (rd_sg tx n k)) 100) := by
  obtain ⟨f, hf⟩ : ∃ f, n - k = f + 1 := ⟨n - k - 1, by omega⟩
  rw [hf, show n - (k + 1) = f by omega, rd_dg, h]
  rfl
theorem rd_dg_end {tx : Nat → Int32} {n k v : Nat} (h : n ≤ k ∨ rd_dig (rd_sg tx n k) = false) : rd_dg tx n (n - k) k v = (k, v) := by
  cases hf : n - k with
  | zero => rfl
  | succ f =>
    rcases h with h | h
    · omega
    · rw [rd_dg, h]; rfl
theorem rd_dg_le (tx : Nat → Int32) (n : Nat) : ∀ (f k v : Nat), k ≤ n → k ≤ (rd_dg tx n f k v).1 ∧ (rd_dg tx n f k v).1 ≤ n ∧ (v ≤ 100 → (rd_dg tx n f k v).2 ≤ 100) := by
  intro f
  induction f with
  | zero => intro k v hk; exact ⟨Nat.le_refl _, hk, fun h => h⟩
  | succ f ih =>
    intro k v hk
    rw [rd_dg]
    cases hd : rd_dig (rd_sg tx n k) with
    | false => exact ⟨Nat.le_refl _, hk, fun h => h⟩
    | true =>
      have hl := rd_dig_lt hd
      obtain ⟨h1, h2, h3⟩ := ih (k + 1) (min (v * 10 + rd_dv (rd_sg tx n k)) 100) hl
      exact ⟨Nat.le_trans (Nat.le_succ k) h1, h2, fun _ => h3 (Nat.min_le_right _ _)⟩
theorem rd_end_le {tx : Nat → Int32} {n p : Nat} (hp : p ≤ n) : p ≤ rd_end tx n p ∧ rd_end tx n p ≤ n ∧ rd_val tx n p ≤ 100 := by
  obtain ⟨h1, h2, h3⟩ := rd_dg_le tx n (n - p) p 0 hp
  exact ⟨h1, h2, h3 (by omega)⟩
theorem rd_num_le {tx : Nat → Int32} {n lo hi p : Nat} (h : rd_num tx n lo hi p = true) : lo ≤ rd_val tx n p ∧ rd_val tx n p ≤ hi := by
  simp only [rd_num, Bool.and_eq_true, decide_eq_true_eq] at h
  exact ⟨h.2.2.1, h.2.2.2⟩
