/-! the list goes on -/
theorem pt_oi_none {b : Option Nat} (hb : ∀ j, b = some j → j < 2 ^ 31) (h : pt_oi b = (-1)) : none = b := by
  cases b with
  | none => rfl
  | some j => exact absurd h (nI_m1 (hb j rfl))
theorem pt_oi_some {b : Option Nat} (h : ¬ pt_oi b = (-1)) : ∃ j, some j = b := by
  cases b with
  | none => exact absurd rfl h
  | some j => exact ⟨j, rfl⟩
abbrev li_T : Type := Nat × (Nat → Int32) × (Nat → Int32) × (Nat → Int32) × (Nat → Int32) × (Nat → Int32) × (Nat → Int32) × (Nat → Int32) × (Nat → Int32) × (Nat → Int32)
def li_put (pk vo : Nat) (re : Bool) (L : li_T) (la st ex ct : Nat) : li_T :=
  (L.1 + 1, upd L.2.1 L.1 (nI st), upd L.2.2.1 L.1 (nI ex), upd L.2.2.2.1 L.1 (nI (la + ct)), upd L.2.2.2.2.1 L.1 (nI ct), upd L.2.2.2.2.2.1 L.1 (nI (pt_told re vo (la + 1))), upd L.2.2.2.2.2.2.1 L.1 (nI (if 1 < ct then pt_told re vo (la + 1 + 1) else 0)), upd L.2.2.2.2.2.2.2.1 L.1 (nI (pt_vol vo (la + 1))), upd L.2.2.2.2.2.2.2.2.1 L.1 (nI pk), upd L.2.2.2.2.2.2.2.2.2 L.1 (-1))
/-- fuel, which issue, where the next step is, the last number, the list -/
def li_go (pk sd : Nat) (mo : Int32) (jo vo : Nat) (re : Bool) (hd : Nat → Int32) (hc : Nat) : Nat → Nat → Nat → Nat → li_T → li_T
  | 0, _, _, _, L => L
  | f + 1, kk, x, la, L => if L.1 < 100 then (match pt_sw sd mo x 1800 x with
      | none => L
      | some sx => if 1000000 < ho_nx hd hc 0 sx then L else li_go pk sd mo jo vo re hd hc f (kk + 1) (sx + sd) (la + pt_nums jo kk) (li_put pk vo re L la sx (ho_nx hd hc 0 sx) (pt_nums jo kk))) else L
theorem li_go_go {pk sd : Nat} {mo : Int32} {jo vo : Nat} {re : Bool} {hd : Nat → Int32} {hc nn kk x la : Nat} {L : li_T} (hk : kk ≤ nn) : li_go pk sd mo jo vo re hd hc (nn + 1 - kk) kk x la L = if L.1 < 100 then (match pt_sw sd mo x 1800 x with
      | none => L
      | some sx => if 1000000 < ho_nx hd hc 0 sx then L else li_go pk sd mo jo vo re hd hc (nn + 1 - (kk + 1)) (kk + 1) (sx + sd) (la + pt_nums jo kk) (li_put pk vo re L la sx (ho_nx hd hc 0 sx) (pt_nums jo kk))) else L := by
  obtain ⟨f, hf⟩ : ∃ f, nn + 1 - kk = f + 1 := ⟨nn - kk, by omega⟩
  rw [hf, show nn + 1 - (kk + 1) = f by omega, li_go]
theorem li_go_0 {pk sd : Nat} {mo : Int32} {jo vo : Nat} {re : Bool} {hd : Nat → Int32} {hc nn kk x la : Nat} {L : li_T} (hk : nn < kk) : li_go pk sd mo jo vo re hd hc (nn + 1 - kk) kk x la L = L := by
  rw [show nn + 1 - kk = 0 by omega, li_go]
theorem pt_nums_in (jo k : Nat) : 1 ≤ pt_nums jo k ∧ pt_nums jo k ≤ 2 := by
  unfold pt_nums
  split <;> omega
