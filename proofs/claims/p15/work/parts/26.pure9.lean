/-! the issues in 360 days -/
def mo_yr (sd : Nat) (mo : Int32) (dy : Nat) : Nat → Nat → Nat → Nat
  | 0, _, c => c
  | f + 1, d, c => if d < dy + 360 ∧ d ≤ 1000000 then mo_yr sd mo dy f (d + sd) (cond (pt_on mo d) (c + 1) (c + 0)) else c
theorem mo_yr_go {sd : Nat} {mo : Int32} {dy k d c : Nat} (hk : k < 361) : mo_yr sd mo dy (361 - k) d c = if d < dy + 360 ∧ d ≤ 1000000 then mo_yr sd mo dy (361 - (k + 1)) (d + sd) (cond (pt_on mo d) (c + 1) (c + 0)) else c := by
  obtain ⟨f, hf⟩ : ∃ f, 361 - k = f + 1 := ⟨360 - k, by omega⟩
  rw [hf, show 361 - (k + 1) = f by omega, mo_yr]
theorem mo_yr_0 {sd : Nat} {mo : Int32} {dy k d c : Nat} (h : ¬ (d < dy + 360 ∧ d ≤ 1000000)) : mo_yr sd mo dy (361 - k) d c = c := by
  cases hf : 361 - k with
  | zero => rfl
  | succ f => rw [mo_yr, if_neg h]
