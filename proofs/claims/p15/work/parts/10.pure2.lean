/-! the reader's longer methods as functions -/
theorem rd_sg_lt {tx : Nat → Int32} {n p : Nat} (h : rd_sg tx n p = 44) : p < n := by
  unfold rd_sg at h
  by_cases hp : p < n
  · exact hp
  · rw [if_neg hp] at h
    exact absurd h (by decide)
theorem rd_next_le {tx : Nat → Int32} {n p : Nat} {w : Nat → Int32} {L : Nat} (h : rd_next tx n p w L = true) : p + 1 + L ≤ n := by
  simp only [rd_next, Bool.and_eq_true] at h
  exact rd_word_le h.2
theorem rd_mon_go {tx : Nat → Int32} {n k lo p : Nat} {nu mo : Int32} (hk : k ≤ 12) : rd_mon tx n (13 - k) lo p nu mo = cond (rd_num tx n lo 11 p)
      (cond (decide (rd_sg tx n (rd_end tx n p) = 44))
        (rd_mon tx n (13 - (k + 1)) (rd_val tx n p + 1) (rd_end tx n p + 1) (nI (rd_val tx n p)) (mo ||| ((1 : Int32) <<< (nI (rd_val tx n p) &&& 31))))
        (true, rd_end tx n p, nI (rd_val tx n p), mo ||| ((1 : Int32) <<< (nI (rd_val tx n p) &&& 31))))
      (false, p, nu, mo) := by
  obtain ⟨f, hf⟩ : ∃ f, 13 - k = f + 1 := ⟨12 - k, by omega⟩
  rw [hf, show 13 - (k + 1) = f by omega, rd_mon]
theorem rd_mon_le (tx : Nat → Int32) (n : Nat) : ∀ (f lo p : Nat) (nu mo : Int32), p ≤ n → (rd_mon tx n f lo p nu mo).2.1 ≤ n := by
  intro f
  induction f with
  | zero => intro lo p nu mo hp; exact hp
  | succ f ih =>
    intro lo p nu mo hp
    rw [rd_mon]
    cases rd_num tx n lo 11 p with
    | false => exact hp
    | true =>
      cases hs : decide (rd_sg tx n (rd_end tx n p) = 44) with
      | false => exact (rd_end_le hp).2.1
      | true => exact ih _ _ _ _ (rd_sg_lt (of_decide_eq_true hs))
/-- every N days: right?, place, number, days -/
def rd_how (tx : Nat → Int32) (n pp : Nat) (nu st : Int32) : Bool × Nat × Int32 × Int32 :=
  cond (rd_word tx n pp (sv_w 0) (sv_len 0))
    (cond (rd_sp tx n (pp + sv_len 0))
      (cond (rd_num tx n 1 99 (pp + sv_len 0 + 1))
        (cond (rd_sp tx n (rd_end tx n (pp + sv_len 0 + 1)))
          (cond (rd_word tx n (rd_end tx n (pp + sv_len 0 + 1) + 1) (sv_w 1) (sv_len 1)) (true, rd_end tx n (pp + sv_len 0 + 1) + 1 + sv_len 1, nI (rd_val tx n (pp + sv_len 0 + 1)), nI (rd_val tx n (pp + sv_len 0 + 1)))
            (cond (rd_word tx n (rd_end tx n (pp + sv_len 0 + 1) + 1) (sv_w 2) (sv_len 2)) (true, rd_end tx n (pp + sv_len 0 + 1) + 1 + sv_len 2, nI (rd_val tx n (pp + sv_len 0 + 1)), nI (rd_val tx n (pp + sv_len 0 + 1) * 7))
              (cond (rd_word tx n (rd_end tx n (pp + sv_len 0 + 1) + 1) (sv_w 3) (sv_len 3)) (true, rd_end tx n (pp + sv_len 0 + 1) + 1 + sv_len 3, nI (rd_val tx n (pp + sv_len 0 + 1)), nI (rd_val tx n (pp + sv_len 0 + 1) * 30))
                (false, rd_end tx n (pp + sv_len 0 + 1) + 1, nI (rd_val tx n (pp + sv_len 0 + 1)), st))))
          (false, rd_end tx n (pp + sv_len 0 + 1), nI (rd_val tx n (pp + sv_len 0 + 1)), st))
        (false, pp + sv_len 0 + 1, nu, st))
      (false, pp + sv_len 0, nu, st))
    (false, pp, nu, st)
def rd_c1 (tx : Nat → Int32) (n p : Nat) (nu mo : Int32) : Bool × Nat × Int32 × Int32 :=
  cond (rd_next tx n p (sv_w 4) (sv_len 4)) (cond (rd_sp tx n (p + 1 + sv_len 4)) (rd_mon tx n 13 0 (p + 1 + sv_len 4 + 1) nu mo) (false, p + 1 + sv_len 4, nu, mo)) (true, p, nu, mo)
def rd_c2 (tx : Nat → Int32) (n p : Nat) (nu jo : Int32) : Bool × Nat × Int32 × Int32 :=
  cond (rd_next tx n p (sv_w 5) (sv_len 5)) (cond (rd_sp tx n (p + 1 + sv_len 5)) (cond (rd_num tx n 2 99 (p + 1 + sv_len 5 + 1)) (true, rd_end tx n (p + 1 + sv_len 5 + 1), nI (rd_val tx n (p + 1 + sv_len 5 + 1)), nI (rd_val tx n (p + 1 + sv_len 5 + 1))) (false, p + 1 + sv_len 5 + 1, nu, jo)) (false, p + 1 + sv_len 5, nu, jo)) (true, p, nu, jo)
def rd_c3 (tx : Nat → Int32) (n p : Nat) (nu vo : Int32) (re : Bool) : Bool × Nat × Int32 × Int32 × Bool :=
  cond (rd_next tx n p (sv_w 6) (sv_len 6)) (cond (rd_sp tx n (p + 1 + sv_len 6)) (cond (rd_num tx n 1 99 (p + 1 + sv_len 6 + 1)) (cond (rd_next tx n (rd_end tx n (p + 1 + sv_len 6 + 1)) (sv_w 7) (sv_len 7)) (true, rd_end tx n (p + 1 + sv_len 6 + 1) + 1 + sv_len 7, nI (rd_val tx n (p + 1 + sv_len 6 + 1)), nI (rd_val tx n (p + 1 + sv_len 6 + 1)), true) (true, rd_end tx n (p + 1 + sv_len 6 + 1), nI (rd_val tx n (p + 1 + sv_len 6 + 1)), nI (rd_val tx n (p + 1 + sv_len 6 + 1)), false)) (false, p + 1 + sv_len 6 + 1, nu, vo, re)) (false, p + 1 + sv_len 6, nu, vo, re)) (true, p, nu, vo, re)
/-- the clauses: right?, place, number, months, joined, volume, restarts -/
def rd_cl (tx : Nat → Int32) (n p : Nat) (nu mo jo vo : Int32) (re : Bool) : Bool × Nat × Int32 × Int32 × Int32 × Int32 × Bool :=
  cond (rd_c1 tx n p nu mo).1
    (cond (rd_c2 tx n (rd_c1 tx n p nu mo).2.1 (rd_c1 tx n p nu mo).2.2.1 jo).1
      ((rd_c3 tx n (rd_c2 tx n (rd_c1 tx n p nu mo).2.1 (rd_c1 tx n p nu mo).2.2.1 jo).2.1 (rd_c2 tx n (rd_c1 tx n p nu mo).2.1 (rd_c1 tx n p nu mo).2.2.1 jo).2.2.1 vo re).1,
       (rd_c3 tx n (rd_c2 tx n (rd_c1 tx n p nu mo).2.1 (rd_c1 tx n p nu mo).2.2.1 jo).2.1 (rd_c2 tx n (rd_c1 tx n p nu mo).2.1 (rd_c1 tx n p nu mo).2.2.1 jo).2.2.1 vo re).2.1,
       (rd_c3 tx n (rd_c2 tx n (rd_c1 tx n p nu mo).2.1 (rd_c1 tx n p nu mo).2.2.1 jo).2.1 (rd_c2 tx n (rd_c1 tx n p nu mo).2.1 (rd_c1 tx n p nu mo).2.2.1 jo).2.2.1 vo re).2.2.1,
       (rd_c1 tx n p nu mo).2.2.2, (rd_c2 tx n (rd_c1 tx n p nu mo).2.1 (rd_c1 tx n p nu mo).2.2.1 jo).2.2.2,
       (rd_c3 tx n (rd_c2 tx n (rd_c1 tx n p nu mo).2.1 (rd_c1 tx n p nu mo).2.2.1 jo).2.1 (rd_c2 tx n (rd_c1 tx n p nu mo).2.1 (rd_c1 tx n p nu mo).2.2.1 jo).2.2.1 vo re).2.2.2.1,
       (rd_c3 tx n (rd_c2 tx n (rd_c1 tx n p nu mo).2.1 (rd_c1 tx n p nu mo).2.2.1 jo).2.1 (rd_c2 tx n (rd_c1 tx n p nu mo).2.1 (rd_c1 tx n p nu mo).2.2.1 jo).2.2.1 vo re).2.2.2.2)
      (false, (rd_c2 tx n (rd_c1 tx n p nu mo).2.1 (rd_c1 tx n p nu mo).2.2.1 jo).2.1, (rd_c2 tx n (rd_c1 tx n p nu mo).2.1 (rd_c1 tx n p nu mo).2.2.1 jo).2.2.1, (rd_c1 tx n p nu mo).2.2.2, (rd_c2 tx n (rd_c1 tx n p nu mo).2.1 (rd_c1 tx n p nu mo).2.2.1 jo).2.2.2, vo, re))
    (false, (rd_c1 tx n p nu mo).2.1, (rd_c1 tx n p nu mo).2.2.1, (rd_c1 tx n p nu mo).2.2.2, jo, vo, re)
theorem rd_how_le {tx : Nat → Int32} {n pp : Nat} {nu st : Int32} (h : pp ≤ n) : (rd_how tx n pp nu st).2.1 ≤ n := by
  unfold rd_how
  cases h1 : rd_word tx n pp (sv_w 0) (sv_len 0) with
  | false => exact h
  | true =>
    have l1 := rd_word_le h1
    cases h2 : rd_sp tx n (pp + sv_len 0) with
    | false => exact l1
    | true =>
      have l2 := rd_sp_lt h2
      cases h3 : rd_num tx n 1 99 (pp + sv_len 0 + 1) with
      | false => exact l2
      | true =>
        have l3 := (rd_end_le (tx := tx) (n := n) (p := pp + sv_len 0 + 1) l2).2.1
        cases h4 : rd_sp tx n (rd_end tx n (pp + sv_len 0 + 1)) with
        | false => exact l3
        | true =>
          have l4 := rd_sp_lt h4
          cases h5 : rd_word tx n (rd_end tx n (pp + sv_len 0 + 1) + 1) (sv_w 1) (sv_len 1) with
          | true => exact rd_word_le h5
          | false =>
            cases h6 : rd_word tx n (rd_end tx n (pp + sv_len 0 + 1) + 1) (sv_w 2) (sv_len 2) with
            | true => exact rd_word_le h6
            | false =>
              cases h7 : rd_word tx n (rd_end tx n (pp + sv_len 0 + 1) + 1) (sv_w 3) (sv_len 3) with
              | true => exact rd_word_le h7
              | false => exact l4
theorem rd_c1_le {tx : Nat → Int32} {n p : Nat} {nu mo : Int32} (h : p ≤ n) : (rd_c1 tx n p nu mo).2.1 ≤ n := by
  unfold rd_c1
  cases h1 : rd_next tx n p (sv_w 4) (sv_len 4) with
  | false => exact h
  | true =>
    cases h2 : rd_sp tx n (p + 1 + sv_len 4) with
    | false => exact rd_next_le h1
    | true => exact rd_mon_le tx n 13 0 _ nu mo (rd_sp_lt h2)
theorem rd_c2_le {tx : Nat → Int32} {n p : Nat} {nu jo : Int32} (h : p ≤ n) : (rd_c2 tx n p nu jo).2.1 ≤ n := by
  unfold rd_c2
  cases h1 : rd_next tx n p (sv_w 5) (sv_len 5) with
  | false => exact h
  | true =>
    cases h2 : rd_sp tx n (p + 1 + sv_len 5) with
    | false => exact rd_next_le h1
    | true =>
      cases h3 : rd_num tx n 2 99 (p + 1 + sv_len 5 + 1) with
      | false => exact rd_sp_lt h2
      | true => exact (rd_end_le (rd_sp_lt h2)).2.1
theorem rd_c3_le {tx : Nat → Int32} {n p : Nat} {nu vo : Int32} {re : Bool} (h : p ≤ n) : (rd_c3 tx n p nu vo re).2.1 ≤ n := by
  unfold rd_c3
  cases h1 : rd_next tx n p (sv_w 6) (sv_len 6) with
  | false => exact h
  | true =>
    cases h2 : rd_sp tx n (p + 1 + sv_len 6) with
    | false => exact rd_next_le h1
    | true =>
      cases h3 : rd_num tx n 1 99 (p + 1 + sv_len 6 + 1) with
      | false => exact rd_sp_lt h2
      | true =>
        cases h4 : rd_next tx n (rd_end tx n (p + 1 + sv_len 6 + 1)) (sv_w 7) (sv_len 7) with
        | false => exact (rd_end_le (rd_sp_lt h2)).2.1
        | true => exact rd_next_le h4
theorem rd_cl_le {tx : Nat → Int32} {n p : Nat} {nu mo jo vo : Int32} {re : Bool} (h : p ≤ n) : (rd_cl tx n p nu mo jo vo re).2.1 ≤ n := by
  unfold rd_cl
  have a1 := rd_c1_le (tx := tx) (nu := nu) (mo := mo) h
  cases (rd_c1 tx n p nu mo).1 with
  | false => exact a1
  | true =>
    have a2 := rd_c2_le (tx := tx) (nu := (rd_c1 tx n p nu mo).2.2.1) (jo := jo) a1
    cases (rd_c2 tx n (rd_c1 tx n p nu mo).2.1 (rd_c1 tx n p nu mo).2.2.1 jo).1 with
    | false => exact a2
    | true => exact rd_c3_le a2
/-- the whole text: right?, place, number, days, months, joined, volume, restarts -/
def rd_und (tx : Nat → Int32) (n : Nat) (nu st : Int32) : Bool × Nat × Int32 × Int32 × Int32 × Int32 × Int32 × Bool :=
  cond (rd_how tx n 0 nu st).1
    (cond (rd_cl tx n (rd_how tx n 0 nu st).2.1 (rd_how tx n 0 nu st).2.2.1 0 0 0 false).1
      (cond (decide ((rd_cl tx n (rd_how tx n 0 nu st).2.1 (rd_how tx n 0 nu st).2.2.1 0 0 0 false).2.1 = n))
        (true, (rd_cl tx n (rd_how tx n 0 nu st).2.1 (rd_how tx n 0 nu st).2.2.1 0 0 0 false).2.1, (rd_cl tx n (rd_how tx n 0 nu st).2.1 (rd_how tx n 0 nu st).2.2.1 0 0 0 false).2.2.1, (rd_how tx n 0 nu st).2.2.2, (rd_cl tx n (rd_how tx n 0 nu st).2.1 (rd_how tx n 0 nu st).2.2.1 0 0 0 false).2.2.2.1, (rd_cl tx n (rd_how tx n 0 nu st).2.1 (rd_how tx n 0 nu st).2.2.1 0 0 0 false).2.2.2.2.1, (rd_cl tx n (rd_how tx n 0 nu st).2.1 (rd_how tx n 0 nu st).2.2.1 0 0 0 false).2.2.2.2.2.1, (rd_cl tx n (rd_how tx n 0 nu st).2.1 (rd_how tx n 0 nu st).2.2.1 0 0 0 false).2.2.2.2.2.2)
        (false, cond (rd_sp tx n (rd_cl tx n (rd_how tx n 0 nu st).2.1 (rd_how tx n 0 nu st).2.2.1 0 0 0 false).2.1) ((rd_cl tx n (rd_how tx n 0 nu st).2.1 (rd_how tx n 0 nu st).2.2.1 0 0 0 false).2.1 + 1) (rd_cl tx n (rd_how tx n 0 nu st).2.1 (rd_how tx n 0 nu st).2.2.1 0 0 0 false).2.1, (rd_cl tx n (rd_how tx n 0 nu st).2.1 (rd_how tx n 0 nu st).2.2.1 0 0 0 false).2.2.1, (rd_how tx n 0 nu st).2.2.2, (rd_cl tx n (rd_how tx n 0 nu st).2.1 (rd_how tx n 0 nu st).2.2.1 0 0 0 false).2.2.2.1, (rd_cl tx n (rd_how tx n 0 nu st).2.1 (rd_how tx n 0 nu st).2.2.1 0 0 0 false).2.2.2.2.1, (rd_cl tx n (rd_how tx n 0 nu st).2.1 (rd_how tx n 0 nu st).2.2.1 0 0 0 false).2.2.2.2.2.1, (rd_cl tx n (rd_how tx n 0 nu st).2.1 (rd_how tx n 0 nu st).2.2.1 0 0 0 false).2.2.2.2.2.2))
      (false, (rd_cl tx n (rd_how tx n 0 nu st).2.1 (rd_how tx n 0 nu st).2.2.1 0 0 0 false).2.1, (rd_cl tx n (rd_how tx n 0 nu st).2.1 (rd_how tx n 0 nu st).2.2.1 0 0 0 false).2.2.1, (rd_how tx n 0 nu st).2.2.2, (rd_cl tx n (rd_how tx n 0 nu st).2.1 (rd_how tx n 0 nu st).2.2.1 0 0 0 false).2.2.2.1, (rd_cl tx n (rd_how tx n 0 nu st).2.1 (rd_how tx n 0 nu st).2.2.1 0 0 0 false).2.2.2.2.1, (rd_cl tx n (rd_how tx n 0 nu st).2.1 (rd_how tx n 0 nu st).2.2.1 0 0 0 false).2.2.2.2.2.1, (rd_cl tx n (rd_how tx n 0 nu st).2.1 (rd_how tx n 0 nu st).2.2.1 0 0 0 false).2.2.2.2.2.2))
    (false, (rd_how tx n 0 nu st).2.1, (rd_how tx n 0 nu st).2.2.1, (rd_how tx n 0 nu st).2.2.2, 0, 0, 0, false)
