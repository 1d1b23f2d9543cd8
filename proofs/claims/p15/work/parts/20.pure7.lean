/-! the reference's reading as functions -/
abbrev mo_w (t : Nat → Int32) (n p : Nat) : Int64 := mo_wd t n p (n - p) p 0
abbrev mo_e (t : Nat → Int32) (n p : Nat) : Nat := mo_en t n (n - p) p
/-- every N days: right?, at, wrong, days -/
def mo_ev (t : Nat → Int32) (n pp : Nat) (wr st : Int32) : Bool × Nat × Int32 × Int32 :=
  if mo_w t n pp = 5969497 then
    cond (rd_sp t n (mo_e t n pp))
      (cond (rd_num t n 1 99 (mo_e t n pp + 1))
        (cond (rd_sp t n (rd_end t n (mo_e t n pp + 1)))
          (if mo_w t n (rd_end t n (mo_e t n pp + 1) + 1) = 132915 then (true, mo_e t n (rd_end t n (mo_e t n pp + 1) + 1), wr, nI (rd_val t n (mo_e t n pp + 1) * 1))
           else if mo_w t n (rd_end t n (mo_e t n pp + 1) + 1) = 24286579 then (true, mo_e t n (rd_end t n (mo_e t n pp + 1) + 1), wr, nI (rd_val t n (mo_e t n pp + 1) * 7))
           else if mo_w t n (rd_end t n (mo_e t n pp + 1) + 1) = 452415763 then (true, mo_e t n (rd_end t n (mo_e t n pp + 1) + 1), wr, nI (rd_val t n (mo_e t n pp + 1) * 30))
           else (false, rd_end t n (mo_e t n pp + 1) + 1, nI (rd_end t n (mo_e t n pp + 1) + 1), st))
          (false, rd_end t n (mo_e t n pp + 1), nI (rd_end t n (mo_e t n pp + 1)), st))
        (false, rd_end t n (mo_e t n pp + 1), nI (mo_e t n pp + 1), st))
      (false, mo_e t n pp, nI (mo_e t n pp), st)
  else (false, pp, nI pp, st)
theorem mo_e_le {t : Nat → Int32} {n p : Nat} (h : p ≤ n) : p ≤ mo_e t n p ∧ mo_e t n p ≤ n := mo_en_le t n (n - p) p h
theorem mo_ev_le {t : Nat → Int32} {n pp : Nat} {wr st : Int32} (h : pp ≤ n) : (mo_ev t n pp wr st).2.1 ≤ n := by
  unfold mo_ev
  split
  · have l1 := (mo_e_le (t := t) h).2
    cases h2 : rd_sp t n (mo_e t n pp) with
    | false => exact l1
    | true =>
      have l2 := rd_sp_lt h2
      have l3 := (rd_end_le (tx := t) (n := n) (p := mo_e t n pp + 1) l2).2.1
      cases h3 : rd_num t n 1 99 (mo_e t n pp + 1) with
      | false => exact l3
      | true =>
        cases h4 : rd_sp t n (rd_end t n (mo_e t n pp + 1)) with
        | false => exact l3
        | true =>
          have l4 := rd_sp_lt h4
          show (if _ then _ else _ : Bool × Nat × Int32 × Int32).2.1 ≤ n
          split
          · exact (mo_e_le l4).2
          · split
            · exact (mo_e_le l4).2
            · split
              · exact (mo_e_le l4).2
              · exact l4
  · exact h
/-- the last month that was told, less 1 -/
def mo_ls : Nat → Int32
  | 0 => (-1)
  | k + 1 => nI k
theorem mo_ls_lt {lo m : Nat} (hl : lo < 2 ^ 31) (hm : m < 2 ^ 31) : mo_ls lo < nI m ↔ lo ≤ m := by
  cases lo with
  | zero =>
    constructor
    · intro _; exact Nat.zero_le _
    · intro _
      rw [Int32.lt_iff_toInt_lt, nI_toInt hm]
      show (-1 : Int32).toInt < _
      rw [show (-1 : Int32).toInt = -1 by decide]
      omega
  | succ k =>
    show nI k < nI m ↔ _
    rw [nI_ltI (by omega) hm]
    exact Iff.rfl
/-- fuel, lowest month, at, wrong, months: right?, at, wrong, months -/
def mo_sk (t : Nat → Int32) (n : Nat) : Nat → Nat → Nat → Int32 → Int32 → Bool × Nat × Int32 × Int32
  | 0, _, q, wr, mo => (false, q, wr, mo)
  | f + 1, lo, q, wr, mo => cond (rd_num t n 0 11 q)
      (if lo ≤ rd_val t n q then
        (if rd_sg t n (rd_end t n q) = 44 then mo_sk t n f (rd_val t n q + 1) (rd_end t n q + 1) wr (mo ||| ((1 : Int32) <<< (nI (rd_val t n q) &&& 31)))
         else (true, rd_end t n q, wr, mo ||| ((1 : Int32) <<< (nI (rd_val t n q) &&& 31))))
       else (false, rd_end t n q, nI q, mo))
      (false, rd_end t n q, nI q, mo)
theorem mo_sk_go {t : Nat → Int32} {n k lo q : Nat} {wr mo : Int32} (hk : k ≤ 12) : mo_sk t n (13 - k) lo q wr mo = cond (rd_num t n 0 11 q)
      (if lo ≤ rd_val t n q then
        (if rd_sg t n (rd_end t n q) = 44 then mo_sk t n (13 - (k + 1)) (rd_val t n q + 1) (rd_end t n q + 1) wr (mo ||| ((1 : Int32) <<< (nI (rd_val t n q) &&& 31)))
         else (true, rd_end t n q, wr, mo ||| ((1 : Int32) <<< (nI (rd_val t n q) &&& 31))))
       else (false, rd_end t n q, nI q, mo))
      (false, rd_end t n q, nI q, mo) := by
  obtain ⟨f, hf⟩ : ∃ f, 13 - k = f + 1 := ⟨12 - k, by omega⟩
  rw [hf, show 13 - (k + 1) = f by omega, mo_sk]
theorem upd_upd (f : Nat → Int32) (k : Nat) (v w : Int32) : upd (upd f k v) k w = upd f k w := by
  funext j
  unfold upd
  split <;> rfl
theorem upd_self (f : Nat → Int32) (k : Nat) : upd f k (f k) = f := by
  funext j
  unfold upd
  split
  · rename_i h; rw [h]
  · rfl
abbrev mo_R : Type := Bool × Nat × Int32 × Int32 × Int32 × Int32 × Bool
def mo_pt (w : Int64) : Nat := if w = 634160 then 1 else if w = 351582372 then 2 else if w = 754341285 then 3 else if w = 19515704916 then 4 else 0
/-- a clause behind its space: the part of the word at q, told by its number; rec: what follows -/
def mo_nx (t : Nat → Int32) (n : Nat) (rec : Nat → Nat → Int32 → Int32 → Int32 → Int32 → Bool → mo_R) (la q : Nat) (wr mo jo vo : Int32) (re : Bool) (part : Nat) : mo_R :=
  if part ≤ la ∨ (part = 4 ∧ ¬ la = 3) then (false, q, nI q, mo, jo, vo, re)
  else match part with
    | 4 => rec 4 (mo_e t n q) wr mo jo vo true
    | 1 => cond (rd_sp t n (mo_e t n q))
        (cond (mo_sk t n 13 0 (mo_e t n q + 1) wr mo).1
          (rec 1 (mo_sk t n 13 0 (mo_e t n q + 1) wr mo).2.1 (mo_sk t n 13 0 (mo_e t n q + 1) wr mo).2.2.1 (mo_sk t n 13 0 (mo_e t n q + 1) wr mo).2.2.2 jo vo re)
          (false, (mo_sk t n 13 0 (mo_e t n q + 1) wr mo).2.1, (mo_sk t n 13 0 (mo_e t n q + 1) wr mo).2.2.1, (mo_sk t n 13 0 (mo_e t n q + 1) wr mo).2.2.2, jo, vo, re))
        (false, mo_e t n q, nI (mo_e t n q), mo, jo, vo, re)
    | 2 => cond (rd_sp t n (mo_e t n q))
        (cond (rd_num t n 2 99 (mo_e t n q + 1)) (rec 2 (rd_end t n (mo_e t n q + 1)) wr mo (nI (rd_val t n (mo_e t n q + 1))) vo re) (false, rd_end t n (mo_e t n q + 1), nI (mo_e t n q + 1), mo, jo, vo, re))
        (false, mo_e t n q, nI (mo_e t n q), mo, jo, vo, re)
    | 3 => cond (rd_sp t n (mo_e t n q))
        (cond (rd_num t n 1 99 (mo_e t n q + 1)) (rec 3 (rd_end t n (mo_e t n q + 1)) wr mo jo (nI (rd_val t n (mo_e t n q + 1))) re) (false, rd_end t n (mo_e t n q + 1), nI (mo_e t n q + 1), mo, jo, vo, re))
        (false, mo_e t n q, nI (mo_e t n q), mo, jo, vo, re)
    | _ => (false, q, nI q, mo, jo, vo, re)
/-- the clauses: fuel, the last part, at, wrong, months, joined, volume, restarts -/
def mo_lp (t : Nat → Int32) (n : Nat) : Nat → Nat → Nat → Int32 → Int32 → Int32 → Int32 → Bool → mo_R
  | 0, _, q, wr, mo, jo, vo, re => (false, q, wr, mo, jo, vo, re)
  | f + 1, la, q, wr, mo, jo, vo, re => if n ≤ q then (true, q, wr, mo, jo, vo, re)
      else cond (rd_sp t n q) (mo_nx t n (mo_lp t n f) la (q + 1) wr mo jo vo re (mo_pt (mo_w t n (q + 1)))) (false, q, nI q, mo, jo, vo, re)
theorem mo_lp_go {t : Nat → Int32} {n kk la q : Nat} {wr mo jo vo : Int32} {re : Bool} (hk : kk ≤ 4) : mo_lp t n (5 - kk) la q wr mo jo vo re = if n ≤ q then (true, q, wr, mo, jo, vo, re)
      else cond (rd_sp t n q) (mo_nx t n (mo_lp t n (5 - (kk + 1))) la (q + 1) wr mo jo vo re (mo_pt (mo_w t n (q + 1)))) (false, q, nI q, mo, jo, vo, re) := by
  obtain ⟨f, hf⟩ : ∃ f, 5 - kk = f + 1 := ⟨4 - kk, by omega⟩
  rw [hf, show 5 - (kk + 1) = f by omega, mo_lp]
theorem mo_sk_le (t : Nat → Int32) (n : Nat) : ∀ (f lo q : Nat) (wr mo : Int32), q ≤ n → (mo_sk t n f lo q wr mo).2.1 ≤ n := by
  intro f
  induction f with
  | zero => intro lo q wr mo h; exact h
  | succ f ih =>
    intro lo q wr mo h
    have l := (rd_end_le (tx := t) h).2.1
    rw [mo_sk]
    cases rd_num t n 0 11 q with
    | false => exact l
    | true =>
      show (if _ then _ else _ : Bool × Nat × Int32 × Int32).2.1 ≤ n
      split
      · split
        · rename_i h2; exact ih _ _ _ _ (rd_sg_lt h2)
        · exact l
      · exact l
/-- the whole text: right?, at, wrong, months, joined, volume, restarts; and the days -/
def mo_rs (t : Nat → Int32) (n : Nat) (wr st : Int32) : mo_R := cond (mo_ev t n 0 wr st).1 (mo_lp t n 5 0 (mo_ev t n 0 wr st).2.1 (mo_ev t n 0 wr st).2.2.1 0 0 0 false) (false, (mo_ev t n 0 wr st).2.1, (mo_ev t n 0 wr st).2.2.1, 0, 0, 0, false)
