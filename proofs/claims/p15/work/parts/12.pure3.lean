/-! patterns, holidays and the list as functions -/
theorem pt_sw_go {sd : Nat} {mo : Int32} {d k x : Nat} (hk : k < 1800) : pt_sw sd mo d (1800 - k) x = if d + 1800 ≤ x ∨ 1000000 < x then none else cond (pt_on mo x) (some x) (pt_sw sd mo d (1800 - (k + 1)) (x + sd)) := by
  obtain ⟨f, hf⟩ : ∃ f, 1800 - k = f + 1 := ⟨1799 - k, by omega⟩
  rw [hf, show 1800 - (k + 1) = f by omega, pt_sw]
theorem pt_sw_0 {sd : Nat} {mo : Int32} {d k x : Nat} (hk : 1800 ≤ k) : pt_sw sd mo d (1800 - k) x = none := by
  rw [show 1800 - k = 0 by omega, pt_sw]
theorem pt_sw_in {sd : Nat} {mo : Int32} {d : Nat} : ∀ {f x y : Nat}, pt_sw sd mo d f x = some y → d ≤ x → d ≤ y ∧ x ≤ y ∧ y ≤ 1000000 ∧ y < d + 1800 ∧ pt_on mo y = true := by
  intro f
  induction f with
  | zero => intro x y h; cases h
  | succ f ih =>
    intro x y h hx
    rw [pt_sw] at h
    by_cases hc : d + 1800 ≤ x ∨ 1000000 < x
    · rw [if_pos hc] at h; cases h
    · rw [if_neg hc] at h
      cases ho : pt_on mo x with
      | true => rw [ho] at h; cases h; exact ⟨hx, Nat.le_refl _, by omega, by omega, ho⟩
      | false =>
        rw [ho] at h
        obtain ⟨h1, h2, h3, h4, h5⟩ := ih h (by omega)
        exact ⟨h1, by omega, h3, h4, h5⟩
/-- the day x itself, or the next that is no holiday: one walk over the holidays from place k on -/
def ho_nx (h : Nat → Int32) : Nat → Nat → Nat → Nat
  | 0, _, x => x
  | f + 1, k, x => ho_nx h f (k + 1) (if h k = nI x then x + 1 else x)
theorem ho_nx_go {h : Nat → Int32} {n k x : Nat} (hk : k < n) : ho_nx h (n - k) k x = ho_nx h (n - (k + 1)) (k + 1) (if h k = nI x then x + 1 else x) := by
  obtain ⟨f, hf⟩ : ∃ f, n - k = f + 1 := ⟨n - k - 1, by omega⟩
  rw [hf, show n - (k + 1) = f by omega, ho_nx]
theorem ho_nx_0 {h : Nat → Int32} {n k x : Nat} (hk : n ≤ k) : ho_nx h (n - k) k x = x := by
  rw [show n - k = 0 by omega, ho_nx]
theorem ho_nx_le {h : Nat → Int32} : ∀ (f k x : Nat), x ≤ ho_nx h f k x ∧ ho_nx h f k x ≤ x + f := by
  intro f
  induction f with
  | zero => intro k x; exact ⟨Nat.le_refl _, Nat.le_refl _⟩
  | succ f ih =>
    intro k x
    rw [ho_nx]
    by_cases hc : h k = nI x
    · rw [if_pos hc]
      have := ih (k + 1) (x + 1); omega
    · rw [if_neg hc]
      have := ih (k + 1) x; omega
/-- where a day is put among the first p holidays that go up, those above it moved by one -/
def ho_ins (d : Int32) : Nat → (Nat → Int32) → Nat × (Nat → Int32)
  | 0, h => (0, h)
  | p + 1, h => if h p ≤ d then (p + 1, h) else ho_ins d p (upd h (p + 1) (h p))
theorem ho_ins_le (d : Int32) : ∀ (p : Nat) (h : Nat → Int32), (ho_ins d p h).1 ≤ p := by
  intro p
  induction p with
  | zero => intro h; exact Nat.le_refl _
  | succ p ih =>
    intro h
    rw [ho_ins]
    split
    · exact Nat.le_refl _
    · exact Nat.le_succ_of_le (ih _)
def li_has (n : Nat) (x : Int32) : Bool := decide (0 ≤ x) && decide (x < nI n)
theorem li_has_of {n : Nat} {x : Int32} (hn : n < 2 ^ 31) (h : li_has n x = true) : ∃ k : Nat, k < n ∧ nI k = x := by
  simp only [li_has, Bool.and_eq_true, decide_eq_true_eq] at h
  obtain ⟨j, hj, e⟩ := nI_of (x := x) (Int32.not_lt.mpr h.1)
  subst e
  exact ⟨j, (nI_ltI hj hn).mp h.2, rfl⟩
theorem li_has_nI {n k : Nat} (hn : n < 2 ^ 31) (hk : k < 2 ^ 31) : li_has n (nI k) = decide (k < n) := by
  unfold li_has
  rw [decide_eq_true (nI_pos' hk), Bool.true_and]
  exact decide_eq_decide.mpr (nI_ltI hk hn)
def li_out (n : Nat) (fc : Nat → Int32) (x : Int32) : Bool := li_has n x && decide (fc x.toNatClampNeg = (-1))
theorem li_out_nI {n k : Nat} {fc : Nat → Int32} (hn : n < 2 ^ 31) (hk : k < 2 ^ 31) : li_out n fc (nI k) = (decide (k < n) && decide (fc k = (-1))) := by
  unfold li_out
  rw [li_has_nI hn hk, nI_clamp hk]
theorem li_max (k : Nat) (hk : k < 2 ^ 31) : (if (0 : Int32) < nI k then nI k else 0) = nI k := by
  by_cases h : 0 < k
  · rw [if_pos (show (0 : Int32) < nI k from (nI_ltI (a := 0) (by omega) hk).mpr h)]
  · rw [show k = 0 by omega]; rfl
def li_come (fc : Nat → Int32) : Nat → Nat → Bool
  | 0, _ => false
  | f + 1, k => cond (decide (fc k = (-1))) (li_come fc f (k + 1)) true
theorem li_come_go {fc : Nat → Int32} {n k : Nat} (hk : k < n) : li_come fc (n - k) k = cond (decide (fc k = (-1))) (li_come fc (n - (k + 1)) (k + 1)) true := by
  obtain ⟨f, hf⟩ : ∃ f, n - k = f + 1 := ⟨n - k - 1, by omega⟩
  rw [hf, show n - (k + 1) = f by omega, li_come]
theorem li_come_0 {fc : Nat → Int32} {n k : Nat} (hk : n ≤ k) : li_come fc (n - k) k = false := by
  rw [show n - k = 0 by omega, li_come]
def li_bef (fs : Nat → Int32) (x : Int32) : Nat → Nat → Nat
  | 0, k => k
  | f + 1, k => if x ≤ fs k then k else li_bef fs x f (k + 1)
theorem li_bef_go {fs : Nat → Int32} {x : Int32} {n k : Nat} (hk : k < n) : li_bef fs x (n - k) k = if x ≤ fs k then k else li_bef fs x (n - (k + 1)) (k + 1) := by
  obtain ⟨f, hf⟩ : ∃ f, n - k = f + 1 := ⟨n - k - 1, by omega⟩
  rw [hf, show n - (k + 1) = f by omega, li_bef]
theorem li_bef_0 {fs : Nat → Int32} {x : Int32} {n k : Nat} (hk : n ≤ k) : li_bef fs x (n - k) k = k := by
  rw [show n - k = 0 by omega, li_bef]
theorem li_bef_le {fs : Nat → Int32} {x : Int32} : ∀ (f k : Nat), k ≤ li_bef fs x f k ∧ li_bef fs x f k ≤ k + f := by
  intro f
  induction f with
  | zero => intro k; exact ⟨Nat.le_refl _, Nat.le_refl _⟩
  | succ f ih =>
    intro k
    rw [li_bef]
    split
    · omega
    · have := ih (k + 1); omega
def li_due (n : Nat) (fc fe : Nat → Int32) (dy : Int32) (k : Nat) : Bool := (decide (k < n) && decide (fc k = (-1))) && decide (fe k < dy)
def li_cnt (n : Nat) (fc fe : Nat → Int32) (dy : Int32) : Nat → Nat → Nat → Nat
  | 0, _, c => c
  | f + 1, k, c => li_cnt n fc fe dy f (k + 1) (cond (li_due n fc fe dy k) (c + 1) c)
theorem li_cnt_go {n m k c : Nat} {fc fe : Nat → Int32} {dy : Int32} (hk : k < m) : li_cnt n fc fe dy (m - k) k c = li_cnt n fc fe dy (m - (k + 1)) (k + 1) (cond (li_due n fc fe dy k) (c + 1) c) := by
  obtain ⟨f, hf⟩ : ∃ f, m - k = f + 1 := ⟨m - k - 1, by omega⟩
  rw [hf, show m - (k + 1) = f by omega, li_cnt]
theorem li_cnt_0 {n m k c : Nat} {fc fe : Nat → Int32} {dy : Int32} (hk : m ≤ k) : li_cnt n fc fe dy (m - k) k c = c := by
  rw [show m - k = 0 by omega, li_cnt]
def li_bfr (fe : Nat → Int32) (i j : Nat) : Bool := if fe i = fe j then decide (i < j) else decide (fe i < fe j)
def li_fol (n : Nat) (fc fe : Nat → Int32) (dy : Int32) (b : Option Nat) (k : Nat) : Bool := li_due n fc fe dy k && (match b with | none => true | some j => li_bfr fe j k)
def li_bet (fe : Nat → Int32) (be : Option Nat) (k : Nat) : Bool := match be with
  | none => true
  | some j => li_bfr fe k j
def li_nxt (n : Nat) (fc fe : Nat → Int32) (dy : Int32) (b : Option Nat) : Nat → Nat → Option Nat → Option Nat
  | 0, _, be => be
  | f + 1, k, be => li_nxt n fc fe dy b f (k + 1) (cond (li_fol n fc fe dy b k && li_bet fe be k) (some k) be)
theorem li_nxt_go {n m k : Nat} {fc fe : Nat → Int32} {dy : Int32} {b be : Option Nat} (hk : k < m) : li_nxt n fc fe dy b (m - k) k be = li_nxt n fc fe dy b (m - (k + 1)) (k + 1) (cond (li_fol n fc fe dy b k && li_bet fe be k) (some k) be) := by
  obtain ⟨f, hf⟩ : ∃ f, m - k = f + 1 := ⟨m - k - 1, by omega⟩
  rw [hf, show m - (k + 1) = f by omega, li_nxt]
theorem li_nxt_0 {n m k : Nat} {fc fe : Nat → Int32} {dy : Int32} {b be : Option Nat} (hk : m ≤ k) : li_nxt n fc fe dy b (m - k) k be = be := by
  rw [show m - k = 0 by omega, li_nxt]
theorem nI_m1 {k : Nat} (hk : k < 2 ^ 31) : ¬ nI k = (-1) := fun h => by
  have := congrArg Int32.toInt h
  rw [nI_toInt hk] at this
  have e : (-1 : Int32).toInt = -1 := by decide
  rw [e] at this
  omega
