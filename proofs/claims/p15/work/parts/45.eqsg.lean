/-! class and reference agree: signs -/
theorem eq_255 (x : Int32) : x.toInt8.toInt32 &&& 255 = x &&& 255 := by
  refine b_ext (fun i hi => ?_)
  rw [b_and, b_and, b_255]
  by_cases h : i < 8
  · rw [decide_eq_true h, Bool.and_true, Bool.and_true]
    show ((x.toBitVec.signExtend 8).signExtend 32).getLsbD i = x.toBitVec.getLsbD i
    rw [BitVec.getLsbD_signExtend, BitVec.getLsbD_signExtend, if_pos h, if_pos hi, decide_eq_true h, decide_eq_true hi, Bool.true_and, Bool.true_and]
  · rw [decide_eq_false h, Bool.and_false, Bool.and_false]
theorem eq_by8 (f : Nat → Int32) (k : Nat) (x : Int32) : by8 (upd f k x.toInt8.toInt32) = upd (by8 f) k (x &&& 255) := by
  funext j
  unfold by8 upd
  split
  · exact eq_255 x
  · rfl
theorem eq_by80 : by8 (fun _ => 0) = fun _ => 0 := by
  funext j
  show (0 : Int32) &&& 255 = 0
  decide
