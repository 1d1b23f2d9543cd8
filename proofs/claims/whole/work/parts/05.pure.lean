/-! what the class does, as functions: the reader of signs t, n of them -/
def rd_sg (t : Nat → Int32) (n k : Nat) : Int32 := if k < n then t k else (-1)
def rd_dig (x : Int32) : Bool := decide (48 ≤ x) && decide (x ≤ 57)
def rd_let (x : Int32) : Bool := (decide (97 ≤ x) && decide (x ≤ 122)) || (decide (65 ≤ x) && decide (x ≤ 90))
def rd_sp (t : Nat → Int32) (n p : Nat) : Bool := decide (rd_sg t n p = 32)
def rd_eqw (t : Nat → Int32) (n p : Nat) (w : Nat → Int32) (L : Nat) : Bool := decide (∀ j, j < L → rd_sg t n (p + j) = w j)
def rd_word (t : Nat → Int32) (n p : Nat) (w : Nat → Int32) (L : Nat) : Bool := decide (p + L ≤ n) && (!rd_let (rd_sg t n (p + L)) && rd_eqw t n p w L)
def rd_next (t : Nat → Int32) (n p : Nat) (w : Nat → Int32) (L : Nat) : Bool := rd_sp t n p && rd_word t n (p + 1) w L
def rd_dv (x : Int32) : Nat := x.toNatClampNeg - 48
/-- digits from k on: where they end, their number kept at most 100 -/
def rd_dg (t : Nat → Int32) (n : Nat) : Nat → Nat → Nat → Nat × Nat
  | 0, k, v => (k, v)
  | f + 1, k, v => cond (rd_dig (rd_sg t n k)) (rd_dg t n f (k + 1) (min (v * 10 + rd_dv (rd_sg t n k)) 100)) (k, v)
def rd_end (t : Nat → Int32) (n p : Nat) : Nat := (rd_dg t n (n - p) p 0).1
def rd_val (t : Nat → Int32) (n p : Nat) : Nat := (rd_dg t n (n - p) p 0).2
def rd_num (t : Nat → Int32) (n lo hi p : Nat) : Bool := !decide (rd_end t n p = p) && (!(decide (rd_sg t n p = 48) && decide (1 < rd_end t n p - p)) && (decide (lo ≤ rd_val t n p) && decide (rd_val t n p ≤ hi)))
/-- months: right?, place, number, those left out -/
def rd_mon (t : Nat → Int32) (n : Nat) : Nat → Nat → Nat → Int32 → Int32 → Bool × Nat × Int32 × Int32
  | 0, _, p, nu, mo => (false, p, nu, mo)
  | f + 1, lo, p, nu, mo => cond (rd_num t n lo 11 p)
      (cond (decide (rd_sg t n (rd_end t n p) = 44))
        (rd_mon t n f (rd_val t n p + 1) (rd_end t n p + 1) (nI (rd_val t n p)) (mo ||| ((1 : Int32) <<< (nI (rd_val t n p) &&& 31))))
        (true, rd_end t n p, nI (rd_val t n p), mo ||| ((1 : Int32) <<< (nI (rd_val t n p) &&& 31))))
      (false, p, nu, mo)
/-- the steps of a pattern -/
def pt_on (mo : Int32) (x : Nat) : Bool := decide (mo &&& ((1 : Int32) <<< (nI (x / 30 % 12) &&& 31)) = 0)
def pt_sw (sd : Nat) (mo : Int32) (d : Nat) : Nat → Nat → Option Nat
  | 0, _ => none
  | f + 1, x => if d + 1800 ≤ x ∨ 1000000 < x then none else cond (pt_on mo x) (some x) (pt_sw sd mo d f (x + sd))
def pt_oi (o : Option Nat) : Int32 := match o with
  | none => (-1)
  | some x => nI x
def pt_yr (sd : Nat) (mo : Int32) (d : Nat) : Nat → Nat → Nat → Nat
  | 0, _, c => c
  | f + 1, x, c => if x < d + 360 then pt_yr sd mo d f (x + sd) (cond (pt_on mo x) (c + 1) c) else c
def pt_nums (jo : Nat) (k : Nat) : Nat := if 0 < jo ∧ k % jo = 0 then 2 else 1
def pt_vol (vo k : Nat) : Nat := if 0 < vo then (k - 1) / vo + 1 else 0
def pt_told (re : Bool) (vo k : Nat) : Nat := if re = true ∧ 0 < vo then (k - 1) % vo + 1 else k
/-- the holidays, going up: the day itself, or the next one that is none -/
def ho_from (h : Nat → Int32) : Nat → Nat → Int32 → Int32
  | 0, _, x => x
  | f + 1, k, x => ho_from h f (k + 1) (if h k = x then x + 1 else x)
