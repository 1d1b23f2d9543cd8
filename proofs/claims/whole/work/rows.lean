section
-- ===== PART A: goes FIRST, ahead of the names: the tables' words, and 'selects' of the private methods out of them =====
/-- a private method of a class that the tables say can be made, by its rows of tables_1 -/
def lw_okq (q : MethodName × Nat) : Prop := (q.1.cls ≠ "java/lang/invoke/MethodHandle" ∧ q.1.cls ≠ "java/lang/invoke/VarHandle") ∧ Cond.instantiable q.1.cls q.2 ∈ tables_1 ∧ Cond.privateMethod q.1 ∈ tables_1 ∧ Cond.instanceMethod q.1 ∈ tables_1
theorem lw_p0 : lw_okq (⟨"PatternText$PatternReader", "takeHowOften", "()Z"⟩, 9) := ⟨⟨by decide +kernel, by decide +kernel⟩, List.mem_of_getElem? (i := 26) (by decide +kernel), List.mem_of_getElem? (i := 158) (by decide +kernel), List.mem_of_getElem? (i := 159) (by decide +kernel)⟩
theorem lw_p1 : lw_okq (⟨"PatternText$PatternReader", "takeWord", "(Ljava/lang/String;)Z"⟩, 9) := ⟨⟨by decide +kernel, by decide +kernel⟩, List.mem_of_getElem? (i := 26) (by decide +kernel), List.mem_of_getElem? (i := 163) (by decide +kernel), List.mem_of_getElem? (i := 164) (by decide +kernel)⟩
theorem lw_p2 : lw_okq (⟨"PatternText$PatternReader", "signAt", "(I)I"⟩, 9) := ⟨⟨by decide +kernel, by decide +kernel⟩, List.mem_of_getElem? (i := 26) (by decide +kernel), List.mem_of_getElem? (i := 177) (by decide +kernel), List.mem_of_getElem? (i := 178) (by decide +kernel)⟩
theorem lw_p3 : lw_okq (⟨"PatternText$PatternReader", "takeSpace", "()Z"⟩, 9) := ⟨⟨by decide +kernel, by decide +kernel⟩, List.mem_of_getElem? (i := 26) (by decide +kernel), List.mem_of_getElem? (i := 222) (by decide +kernel), List.mem_of_getElem? (i := 223) (by decide +kernel)⟩
theorem lw_p4 : lw_okq (⟨"PatternText$PatternReader", "signHere", "()I"⟩, 9) := ⟨⟨by decide +kernel, by decide +kernel⟩, List.mem_of_getElem? (i := 26) (by decide +kernel), List.mem_of_getElem? (i := 226) (by decide +kernel), List.mem_of_getElem? (i := 227) (by decide +kernel)⟩
theorem lw_p5 : lw_okq (⟨"PatternText$PatternReader", "takeNumber", "(II)Z"⟩, 9) := ⟨⟨by decide +kernel, by decide +kernel⟩, List.mem_of_getElem? (i := 26) (by decide +kernel), List.mem_of_getElem? (i := 230) (by decide +kernel), List.mem_of_getElem? (i := 231) (by decide +kernel)⟩
theorem lw_p6 : lw_okq (⟨"PatternText$PatternReader", "takeClauses", "()Z"⟩, 9) := ⟨⟨by decide +kernel, by decide +kernel⟩, List.mem_of_getElem? (i := 26) (by decide +kernel), List.mem_of_getElem? (i := 243) (by decide +kernel), List.mem_of_getElem? (i := 244) (by decide +kernel)⟩
theorem lw_p7 : lw_okq (⟨"PatternText$PatternReader", "takeNextWord", "(Ljava/lang/String;)Z"⟩, 9) := ⟨⟨by decide +kernel, by decide +kernel⟩, List.mem_of_getElem? (i := 26) (by decide +kernel), List.mem_of_getElem? (i := 248) (by decide +kernel), List.mem_of_getElem? (i := 249) (by decide +kernel)⟩
theorem lw_p8 : lw_okq (⟨"PatternText$PatternReader", "takeMonths", "()Z"⟩, 9) := ⟨⟨by decide +kernel, by decide +kernel⟩, List.mem_of_getElem? (i := 26) (by decide +kernel), List.mem_of_getElem? (i := 252) (by decide +kernel), List.mem_of_getElem? (i := 253) (by decide +kernel)⟩
theorem lw_p9 : lw_okq (⟨"PatternText$PatternReader", "takeEnd", "()Z"⟩, 9) := ⟨⟨by decide +kernel, by decide +kernel⟩, List.mem_of_getElem? (i := 26) (by decide +kernel), List.mem_of_getElem? (i := 259) (by decide +kernel), List.mem_of_getElem? (i := 260) (by decide +kernel)⟩
theorem lw_p10 : lw_okq (⟨"PatternText", "keepPattern", "()I"⟩, 6) := ⟨⟨by decide +kernel, by decide +kernel⟩, List.mem_of_getElem? (i := 18) (by decide +kernel), List.mem_of_getElem? (i := 263) (by decide +kernel), List.mem_of_getElem? (i := 264) (by decide +kernel)⟩
theorem lw_p11 : lw_okq (⟨"PatternText", "patternOf", "(I)LPatternText$Pattern;"⟩, 6) := ⟨⟨by decide +kernel, by decide +kernel⟩, List.mem_of_getElem? (i := 18) (by decide +kernel), List.mem_of_getElem? (i := 314) (by decide +kernel), List.mem_of_getElem? (i := 315) (by decide +kernel)⟩
theorem lw_p12 : lw_okq (⟨"PatternText$IssueList", "put", "(LPatternText$Pattern;III)V"⟩, 10) := ⟨⟨by decide +kernel, by decide +kernel⟩, List.mem_of_getElem? (i := 78) (by decide +kernel), List.mem_of_getElem? (i := 348) (by decide +kernel), List.mem_of_getElem? (i := 349) (by decide +kernel)⟩
theorem lw_p13 : lw_okq (⟨"PatternText$IssueList", "isOverdue", "(II)Z"⟩, 10) := ⟨⟨by decide +kernel, by decide +kernel⟩, List.mem_of_getElem? (i := 78) (by decide +kernel), List.mem_of_getElem? (i := 424) (by decide +kernel), List.mem_of_getElem? (i := 425) (by decide +kernel)⟩
theorem lw_p14 : lw_okq (⟨"PatternText$IssueList", "isClaimedBefore", "(II)Z"⟩, 10) := ⟨⟨by decide +kernel, by decide +kernel⟩, List.mem_of_getElem? (i := 78) (by decide +kernel), List.mem_of_getElem? (i := 432) (by decide +kernel), List.mem_of_getElem? (i := 433) (by decide +kernel)⟩
theorem lw_p15 : lw_okq (⟨"java/lang/Throwable", "fillInStackTrace", "(I)Ljava/lang/Throwable;"⟩, 6) := ⟨⟨by decide +kernel, by decide +kernel⟩, List.mem_of_getElem? (i := 488) (by decide +kernel), List.mem_of_getElem? (i := 486) (by decide +kernel), List.mem_of_getElem? (i := 487) (by decide +kernel)⟩
def lw_privs_1 : List (MethodName × Nat) := [(⟨"PatternText$PatternReader", "takeHowOften", "()Z"⟩, 9), (⟨"PatternText$PatternReader", "takeWord", "(Ljava/lang/String;)Z"⟩, 9), (⟨"PatternText$PatternReader", "signAt", "(I)I"⟩, 9), (⟨"PatternText$PatternReader", "takeSpace", "()Z"⟩, 9), (⟨"PatternText$PatternReader", "signHere", "()I"⟩, 9), (⟨"PatternText$PatternReader", "takeNumber", "(II)Z"⟩, 9), (⟨"PatternText$PatternReader", "takeClauses", "()Z"⟩, 9), (⟨"PatternText$PatternReader", "takeNextWord", "(Ljava/lang/String;)Z"⟩, 9), (⟨"PatternText$PatternReader", "takeMonths", "()Z"⟩, 9), (⟨"PatternText$PatternReader", "takeEnd", "()Z"⟩, 9), (⟨"PatternText", "keepPattern", "()I"⟩, 6), (⟨"PatternText", "patternOf", "(I)LPatternText$Pattern;"⟩, 6), (⟨"PatternText$IssueList", "put", "(LPatternText$Pattern;III)V"⟩, 10), (⟨"PatternText$IssueList", "isOverdue", "(II)Z"⟩, 10), (⟨"PatternText$IssueList", "isClaimedBefore", "(II)Z"⟩, 10), (⟨"java/lang/Throwable", "fillInStackTrace", "(I)Ljava/lang/Throwable;"⟩, 6)]
theorem lw_r1 : ∀ q ∈ lw_privs_1, lw_okq q := List.forall_mem_cons.mpr ⟨lw_p0, List.forall_mem_cons.mpr ⟨lw_p1, List.forall_mem_cons.mpr ⟨lw_p2, List.forall_mem_cons.mpr ⟨lw_p3, List.forall_mem_cons.mpr ⟨lw_p4, List.forall_mem_cons.mpr ⟨lw_p5, List.forall_mem_cons.mpr ⟨lw_p6, List.forall_mem_cons.mpr ⟨lw_p7, List.forall_mem_cons.mpr ⟨lw_p8, List.forall_mem_cons.mpr ⟨lw_p9, List.forall_mem_cons.mpr ⟨lw_p10, List.forall_mem_cons.mpr ⟨lw_p11, List.forall_mem_cons.mpr ⟨lw_p12, List.forall_mem_cons.mpr ⟨lw_p13, List.forall_mem_cons.mpr ⟨lw_p14, List.forall_mem_cons.mpr ⟨lw_p15, fun _ h => absurd h List.not_mem_nil⟩⟩⟩⟩⟩⟩⟩⟩⟩⟩⟩⟩⟩⟩⟩⟩
theorem lw_p16 : lw_okq (⟨"PatternTextModel", "reads", "(I)Z"⟩, 24) := ⟨⟨by decide +kernel, by decide +kernel⟩, List.mem_of_getElem? (i := 521) (by decide +kernel), List.mem_of_getElem? (i := 613) (by decide +kernel), List.mem_of_getElem? (i := 614) (by decide +kernel)⟩
theorem lw_p17 : lw_okq (⟨"PatternTextModel", "every", "(I)Z"⟩, 24) := ⟨⟨by decide +kernel, by decide +kernel⟩, List.mem_of_getElem? (i := 521) (by decide +kernel), List.mem_of_getElem? (i := 617) (by decide +kernel), List.mem_of_getElem? (i := 618) (by decide +kernel)⟩
theorem lw_p18 : lw_okq (⟨"PatternTextModel", "word", "()J"⟩, 24) := ⟨⟨by decide +kernel, by decide +kernel⟩, List.mem_of_getElem? (i := 521) (by decide +kernel), List.mem_of_getElem? (i := 621) (by decide +kernel), List.mem_of_getElem? (i := 622) (by decide +kernel)⟩
theorem lw_p19 : lw_okq (⟨"PatternTextModel", "look", "(I)I"⟩, 24) := ⟨⟨by decide +kernel, by decide +kernel⟩, List.mem_of_getElem? (i := 521) (by decide +kernel), List.mem_of_getElem? (i := 625) (by decide +kernel), List.mem_of_getElem? (i := 626) (by decide +kernel)⟩
theorem lw_p20 : lw_okq (⟨"PatternTextModel", "bad", "(I)Z"⟩, 24) := ⟨⟨by decide +kernel, by decide +kernel⟩, List.mem_of_getElem? (i := 521) (by decide +kernel), List.mem_of_getElem? (i := 636) (by decide +kernel), List.mem_of_getElem? (i := 637) (by decide +kernel)⟩
theorem lw_p21 : lw_okq (⟨"PatternTextModel", "pass", "()V"⟩, 24) := ⟨⟨by decide +kernel, by decide +kernel⟩, List.mem_of_getElem? (i := 521) (by decide +kernel), List.mem_of_getElem? (i := 640) (by decide +kernel), List.mem_of_getElem? (i := 641) (by decide +kernel)⟩
theorem lw_p22 : lw_okq (⟨"PatternTextModel", "space", "()Z"⟩, 24) := ⟨⟨by decide +kernel, by decide +kernel⟩, List.mem_of_getElem? (i := 521) (by decide +kernel), List.mem_of_getElem? (i := 644) (by decide +kernel), List.mem_of_getElem? (i := 645) (by decide +kernel)⟩
theorem lw_p23 : lw_okq (⟨"PatternTextModel", "number", "(II)I"⟩, 24) := ⟨⟨by decide +kernel, by decide +kernel⟩, List.mem_of_getElem? (i := 521) (by decide +kernel), List.mem_of_getElem? (i := 648) (by decide +kernel), List.mem_of_getElem? (i := 649) (by decide +kernel)⟩
theorem lw_p24 : lw_okq (⟨"PatternTextModel", "skip", "(I)Z"⟩, 24) := ⟨⟨by decide +kernel, by decide +kernel⟩, List.mem_of_getElem? (i := 521) (by decide +kernel), List.mem_of_getElem? (i := 662) (by decide +kernel), List.mem_of_getElem? (i := 663) (by decide +kernel)⟩
theorem lw_p25 : lw_okq (⟨"PatternTextModel", "isHoliday", "(I)Z"⟩, 24) := ⟨⟨by decide +kernel, by decide +kernel⟩, List.mem_of_getElem? (i := 521) (by decide +kernel), List.mem_of_getElem? (i := 674) (by decide +kernel), List.mem_of_getElem? (i := 675) (by decide +kernel)⟩
theorem lw_p26 : lw_okq (⟨"PatternTextModel", "isPattern", "(I)Z"⟩, 24) := ⟨⟨by decide +kernel, by decide +kernel⟩, List.mem_of_getElem? (i := 521) (by decide +kernel), List.mem_of_getElem? (i := 682) (by decide +kernel), List.mem_of_getElem? (i := 683) (by decide +kernel)⟩
theorem lw_p27 : lw_okq (⟨"PatternTextModel", "go", "(IIII)V"⟩, 24) := ⟨⟨by decide +kernel, by decide +kernel⟩, List.mem_of_getElem? (i := 521) (by decide +kernel), List.mem_of_getElem? (i := 686) (by decide +kernel), List.mem_of_getElem? (i := 687) (by decide +kernel)⟩
theorem lw_p28 : lw_okq (⟨"PatternTextModel", "has", "(II)Z"⟩, 24) := ⟨⟨by decide +kernel, by decide +kernel⟩, List.mem_of_getElem? (i := 521) (by decide +kernel), List.mem_of_getElem? (i := 690) (by decide +kernel), List.mem_of_getElem? (i := 691) (by decide +kernel)⟩
theorem lw_p29 : lw_okq (⟨"PatternTextModel", "isIssue", "(I)Z"⟩, 24) := ⟨⟨by decide +kernel, by decide +kernel⟩, List.mem_of_getElem? (i := 521) (by decide +kernel), List.mem_of_getElem? (i := 702) (by decide +kernel), List.mem_of_getElem? (i := 703) (by decide +kernel)⟩
theorem lw_p30 : lw_okq (⟨"PatternTextModel", "told", "(II)I"⟩, 24) := ⟨⟨by decide +kernel, by decide +kernel⟩, List.mem_of_getElem? (i := 521) (by decide +kernel), List.mem_of_getElem? (i := 706) (by decide +kernel), List.mem_of_getElem? (i := 707) (by decide +kernel)⟩
theorem lw_p31 : lw_okq (⟨"PatternTextModel", "lateOn", "(II)I"⟩, 24) := ⟨⟨by decide +kernel, by decide +kernel⟩, List.mem_of_getElem? (i := 521) (by decide +kernel), List.mem_of_getElem? (i := 726) (by decide +kernel), List.mem_of_getElem? (i := 727) (by decide +kernel)⟩
def lw_privs_2 : List (MethodName × Nat) := [(⟨"PatternTextModel", "reads", "(I)Z"⟩, 24), (⟨"PatternTextModel", "every", "(I)Z"⟩, 24), (⟨"PatternTextModel", "word", "()J"⟩, 24), (⟨"PatternTextModel", "look", "(I)I"⟩, 24), (⟨"PatternTextModel", "bad", "(I)Z"⟩, 24), (⟨"PatternTextModel", "pass", "()V"⟩, 24), (⟨"PatternTextModel", "space", "()Z"⟩, 24), (⟨"PatternTextModel", "number", "(II)I"⟩, 24), (⟨"PatternTextModel", "skip", "(I)Z"⟩, 24), (⟨"PatternTextModel", "isHoliday", "(I)Z"⟩, 24), (⟨"PatternTextModel", "isPattern", "(I)Z"⟩, 24), (⟨"PatternTextModel", "go", "(IIII)V"⟩, 24), (⟨"PatternTextModel", "has", "(II)Z"⟩, 24), (⟨"PatternTextModel", "isIssue", "(I)Z"⟩, 24), (⟨"PatternTextModel", "told", "(II)I"⟩, 24), (⟨"PatternTextModel", "lateOn", "(II)I"⟩, 24)]
theorem lw_r2 : ∀ q ∈ lw_privs_2, lw_okq q := List.forall_mem_cons.mpr ⟨lw_p16, List.forall_mem_cons.mpr ⟨lw_p17, List.forall_mem_cons.mpr ⟨lw_p18, List.forall_mem_cons.mpr ⟨lw_p19, List.forall_mem_cons.mpr ⟨lw_p20, List.forall_mem_cons.mpr ⟨lw_p21, List.forall_mem_cons.mpr ⟨lw_p22, List.forall_mem_cons.mpr ⟨lw_p23, List.forall_mem_cons.mpr ⟨lw_p24, List.forall_mem_cons.mpr ⟨lw_p25, List.forall_mem_cons.mpr ⟨lw_p26, List.forall_mem_cons.mpr ⟨lw_p27, List.forall_mem_cons.mpr ⟨lw_p28, List.forall_mem_cons.mpr ⟨lw_p29, List.forall_mem_cons.mpr ⟨lw_p30, List.forall_mem_cons.mpr ⟨lw_p31, fun _ h => absurd h List.not_mem_nil⟩⟩⟩⟩⟩⟩⟩⟩⟩⟩⟩⟩⟩⟩⟩⟩
theorem lw_p32 : lw_okq (⟨"PatternTextModel", "isClaim", "(II)Z"⟩, 24) := ⟨⟨by decide +kernel, by decide +kernel⟩, List.mem_of_getElem? (i := 521) (by decide +kernel), List.mem_of_getElem? (i := 734) (by decide +kernel), List.mem_of_getElem? (i := 735) (by decide +kernel)⟩
def lw_privs_3 : List (MethodName × Nat) := [(⟨"PatternTextModel", "isClaim", "(II)Z"⟩, 24)]
theorem lw_r3 : ∀ q ∈ lw_privs_3, lw_okq q := List.forall_mem_cons.mpr ⟨lw_p32, fun _ h => absurd h List.not_mem_nil⟩
def lw_privs : List (MethodName × Nat) := lw_privs_1 ++ (lw_privs_2 ++ (lw_privs_3))
def lw_tbl : List Cond := k2_sels lw_privs ++ tables_1
theorem lw_privs_ok : ∀ q ∈ lw_privs, lw_okq q := by
  show ∀ q ∈ lw_privs_1 ++ (lw_privs_2 ++ (lw_privs_3)), lw_okq q
  exact List.forall_mem_append.mpr ⟨lw_r1, List.forall_mem_append.mpr ⟨lw_r2, lw_r3⟩⟩
/-! names: classes, fields, methods; every method's words are its own code and the whole table -/
def ga_tbl : List Cond := lw_tbl.filter goodWord
theorem ga_m {w : Cond} (h : w ∈ lw_tbl) (hg : goodWord w = true) : w ∈ ga_tbl := List.mem_filter.mpr ⟨h, hg⟩
theorem ga_l {w : Cond} (h : w ∈ ga_tbl) : w ∈ lw_tbl := (List.mem_filter.mp h).1
theorem ga_good {w : Cond} (h : w ∈ ga_tbl) : (w.onTables && w.keeps) = true ∨ ∃ ty, w = .arrayClass ty := good_of_word (List.mem_filter.mp h).2
def F_Ho : u_T := fun k => match k with
  | 0 => ("PatternText$Holidays", "days", "[I", true)
  | _ => ("PatternText$Holidays", "count", "I", false)
def t_Ho : Nat → FieldType := fun k => match k with
  | 0 => .array .int
  | _ => .int
theorem n_Ho : ∀ a, a < 2 → ∀ b, b < 2 → a ≠ b → (F_Ho a).2.1 ≠ (F_Ho b).2.1 := by decide +kernel
theorem t_Ho_ok : ∀ k, k < 2 → parseFieldDescriptor (F_Ho k).2.2.1 = some (t_Ho k) := by decide +kernel
theorem iw_Ho : ∀ w ∈ u_ws "PatternText$Holidays" F_Ho 2, w ∈ ga_tbl := by decide +kernel
def F_Li : u_T := fun k => match k with
  | 0 => ("PatternText$IssueList", "steps", "[I", true)
  | 1 => ("PatternText$IssueList", "expected", "[I", true)
  | 2 => ("PatternText$IssueList", "lastNumbers", "[I", true)
  | 3 => ("PatternText$IssueList", "numbers", "[I", true)
  | 4 => ("PatternText$IssueList", "told", "[I", true)
  | 5 => ("PatternText$IssueList", "toldSecond", "[I", true)
  | 6 => ("PatternText$IssueList", "volumes", "[I", true)
  | 7 => ("PatternText$IssueList", "patterns", "[I", true)
  | 8 => ("PatternText$IssueList", "comeOn", "[I", true)
  | _ => ("PatternText$IssueList", "size", "I", false)
def t_Li : Nat → FieldType := fun k => match k with
  | 0 => .array .int
  | 1 => .array .int
  | 2 => .array .int
  | 3 => .array .int
  | 4 => .array .int
  | 5 => .array .int
  | 6 => .array .int
  | 7 => .array .int
  | 8 => .array .int
  | _ => .int
theorem n_Li : ∀ a, a < 10 → ∀ b, b < 10 → a ≠ b → (F_Li a).2.1 ≠ (F_Li b).2.1 := by decide +kernel
theorem t_Li_ok : ∀ k, k < 10 → parseFieldDescriptor (F_Li k).2.2.1 = some (t_Li k) := by decide +kernel
theorem iw_Li : ∀ w ∈ u_ws "PatternText$IssueList" F_Li 10, w ∈ ga_tbl := by decide +kernel
def F_Pt : u_T := fun k => match k with
  | 0 => ("PatternText$Pattern", "place", "I", true)
  | 1 => ("PatternText$Pattern", "signs", "[I", true)
  | 2 => ("PatternText$Pattern", "stepDays", "I", true)
  | 3 => ("PatternText$Pattern", "monthsLeftOut", "I", true)
  | 4 => ("PatternText$Pattern", "joined", "I", true)
  | 5 => ("PatternText$Pattern", "volume", "I", true)
  | _ => ("PatternText$Pattern", "restarts", "Z", true)
def t_Pt : Nat → FieldType := fun k => match k with
  | 0 => .int
  | 1 => .array .int
  | 2 => .int
  | 3 => .int
  | 4 => .int
  | 5 => .int
  | _ => .boolean
theorem n_Pt : ∀ a, a < 7 → ∀ b, b < 7 → a ≠ b → (F_Pt a).2.1 ≠ (F_Pt b).2.1 := by decide +kernel
theorem t_Pt_ok : ∀ k, k < 7 → parseFieldDescriptor (F_Pt k).2.2.1 = some (t_Pt k) := by decide +kernel
theorem iw_Pt : ∀ w ∈ u_ws "PatternText$Pattern" F_Pt 7, w ∈ ga_tbl := by decide +kernel
def F_Rd : u_T := fun k => match k with
  | 0 => ("PatternText$PatternReader", "signs", "[I", true)
  | 1 => ("PatternText$PatternReader", "length", "I", false)
  | 2 => ("PatternText$PatternReader", "place", "I", false)
  | 3 => ("PatternText$PatternReader", "number", "I", false)
  | 4 => ("PatternText$PatternReader", "stepDays", "I", false)
  | 5 => ("PatternText$PatternReader", "monthsLeftOut", "I", false)
  | 6 => ("PatternText$PatternReader", "joined", "I", false)
  | 7 => ("PatternText$PatternReader", "volume", "I", false)
  | _ => ("PatternText$PatternReader", "restarts", "Z", false)
def t_Rd : Nat → FieldType := fun k => match k with
  | 0 => .array .int
  | 1 => .int
  | 2 => .int
  | 3 => .int
  | 4 => .int
  | 5 => .int
  | 6 => .int
  | 7 => .int
  | _ => .boolean
theorem n_Rd : ∀ a, a < 9 → ∀ b, b < 9 → a ≠ b → (F_Rd a).2.1 ≠ (F_Rd b).2.1 := by decide +kernel
theorem t_Rd_ok : ∀ k, k < 9 → parseFieldDescriptor (F_Rd k).2.2.1 = some (t_Rd k) := by decide +kernel
theorem iw_Rd : ∀ w ∈ u_ws "PatternText$PatternReader" F_Rd 9, w ∈ ga_tbl := by decide +kernel
def F_Pa : u_T := fun k => match k with
  | 0 => ("PatternText", "reader", "LPatternText$PatternReader;", true)
  | 1 => ("PatternText", "patterns", "[LPatternText$Pattern;", true)
  | 2 => ("PatternText", "holidays", "LPatternText$Holidays;", true)
  | 3 => ("PatternText", "list", "LPatternText$IssueList;", true)
  | 4 => ("PatternText", "patternCount", "I", false)
  | _ => ("PatternText", "printed", "LPatternText$Pattern;", false)
def t_Pa : Nat → FieldType := fun k => match k with
  | 0 => .object "PatternText$PatternReader"
  | 1 => .array (.object "PatternText$Pattern")
  | 2 => .object "PatternText$Holidays"
  | 3 => .object "PatternText$IssueList"
  | 4 => .int
  | _ => .object "PatternText$Pattern"
theorem n_Pa : ∀ a, a < 6 → ∀ b, b < 6 → a ≠ b → (F_Pa a).2.1 ≠ (F_Pa b).2.1 := by decide +kernel
theorem t_Pa_ok : ∀ k, k < 6 → parseFieldDescriptor (F_Pa k).2.2.1 = some (t_Pa k) := by decide +kernel
theorem iw_Pa : ∀ w ∈ u_ws "PatternText" F_Pa 6, w ∈ ga_tbl := by decide +kernel
def F_Mo : u_T := fun k => match k with
  | 0 => ("PatternTextModel", "thrown", "I", false)
  | 1 => ("PatternTextModel", "said", "[B", true)
  | 2 => ("PatternTextModel", "size", "I", false)
  | 3 => ("PatternTextModel", "at", "I", false)
  | 4 => ("PatternTextModel", "wrong", "I", false)
  | 5 => ("PatternTextModel", "steps", "[I", true)
  | 6 => ("PatternTextModel", "months", "[I", true)
  | 7 => ("PatternTextModel", "joined", "[I", true)
  | 8 => ("PatternTextModel", "volumes", "[I", true)
  | 9 => ("PatternTextModel", "restarts", "[Z", true)
  | 10 => ("PatternTextModel", "texts", "[B", true)
  | 11 => ("PatternTextModel", "textSizes", "[I", true)
  | 12 => ("PatternTextModel", "count", "I", false)
  | 13 => ("PatternTextModel", "holidays", "[I", true)
  | 14 => ("PatternTextModel", "holidayCount", "I", false)
  | 15 => ("PatternTextModel", "stepOf", "[I", true)
  | 16 => ("PatternTextModel", "expects", "[I", true)
  | 17 => ("PatternTextModel", "numbers", "[I", true)
  | 18 => ("PatternTextModel", "twice", "[Z", true)
  | 19 => ("PatternTextModel", "patternOf", "[I", true)
  | 20 => ("PatternTextModel", "came", "[I", true)
  | 21 => ("PatternTextModel", "issues", "I", false)
  | 22 => ("PatternTextModel", "printed", "[B", true)
  | _ => ("PatternTextModel", "printedSize", "I", false)
def t_Mo : Nat → FieldType := fun k => match k with
  | 0 => .int
  | 1 => .array .byte
  | 2 => .int
  | 3 => .int
  | 4 => .int
  | 5 => .array .int
  | 6 => .array .int
  | 7 => .array .int
  | 8 => .array .int
  | 9 => .array .boolean
  | 10 => .array .byte
  | 11 => .array .int
  | 12 => .int
  | 13 => .array .int
  | 14 => .int
  | 15 => .array .int
  | 16 => .array .int
  | 17 => .array .int
  | 18 => .array .boolean
  | 19 => .array .int
  | 20 => .array .int
  | 21 => .int
  | 22 => .array .byte
  | _ => .int
theorem n_Mo : ∀ a, a < 24 → ∀ b, b < 24 → a ≠ b → (F_Mo a).2.1 ≠ (F_Mo b).2.1 := by decide +kernel
theorem t_Mo_ok : ∀ k, k < 24 → parseFieldDescriptor (F_Mo k).2.2.1 = some (t_Mo k) := by decide +kernel
theorem iw_Mo : ∀ w ∈ u_ws "PatternTextModel" F_Mo 24, w ∈ ga_tbl := by decide +kernel
abbrev ga_cl : List vw_C := [("PatternText$Holidays", F_Ho, 2), ("PatternText$IssueList", F_Li, 10), ("PatternText$Pattern", F_Pt, 7), ("PatternText$PatternReader", F_Rd, 9), ("PatternText", F_Pa, 6), ("PatternTextModel", F_Mo, 24)]
abbrev b_Pa_init : ByteArray := prog_1_method_1_code
abbrev y_Pa_init : MethodName := ⟨"PatternText", "<init>", "()V"⟩
def w_Pa_init : List Cond := .code y_Pa_init b_Pa_init 1 none :: ga_tbl
abbrev b_Rd_init : ByteArray := prog_5_method_1_code
abbrev y_Rd_init : MethodName := ⟨"PatternText$PatternReader", "<init>", "()V"⟩
def w_Rd_init : List Cond := .code y_Rd_init b_Rd_init 1 none :: ga_tbl
abbrev b_Ho_init : ByteArray := prog_2_method_1_code
abbrev y_Ho_init : MethodName := ⟨"PatternText$Holidays", "<init>", "()V"⟩
def w_Ho_init : List Cond := .code y_Ho_init b_Ho_init 1 none :: ga_tbl
abbrev b_Li_init : ByteArray := prog_3_method_1_code
abbrev y_Li_init : MethodName := ⟨"PatternText$IssueList", "<init>", "()V"⟩
def w_Li_init : List Cond := .code y_Li_init b_Li_init 1 none :: ga_tbl
abbrev b_Pa_sign : ByteArray := prog_1_method_2_code
abbrev y_Pa_sign : MethodName := ⟨"PatternText", "sign", "(I)V"⟩
def w_Pa_sign : List Cond := .code y_Pa_sign b_Pa_sign 2 none :: ga_tbl
abbrev b_Rd_collect : ByteArray := prog_5_method_2_code
abbrev y_Rd_collect : MethodName := ⟨"PatternText$PatternReader", "collect", "(I)V"⟩
def w_Rd_collect : List Cond := .code y_Rd_collect b_Rd_collect 2 none :: ga_tbl
abbrev b_Pa_read : ByteArray := prog_1_method_3_code
abbrev y_Pa_read : MethodName := ⟨"PatternText", "read", "()I"⟩
def w_Pa_read : List Cond := .code y_Pa_read b_Pa_read 4 (some .int) :: ga_tbl
abbrev b_Rd_understand : ByteArray := prog_5_method_5_code
abbrev y_Rd_understand : MethodName := ⟨"PatternText$PatternReader", "understand", "()Z"⟩
def w_Rd_understand : List Cond := .code y_Rd_understand b_Rd_understand 1 (some .boolean) :: ga_tbl
abbrev b_Rd_takeHowOften : ByteArray := prog_5_method_6_code
abbrev y_Rd_takeHowOften : MethodName := ⟨"PatternText$PatternReader", "takeHowOften", "()Z"⟩
def w_Rd_takeHowOften : List Cond := .code y_Rd_takeHowOften b_Rd_takeHowOften 1 (some .boolean) :: ga_tbl
abbrev b_Rd_takeWord : ByteArray := prog_5_method_12_code
abbrev y_Rd_takeWord : MethodName := ⟨"PatternText$PatternReader", "takeWord", "(Ljava/lang/String;)Z"⟩
def w_Rd_takeWord : List Cond := .code y_Rd_takeWord b_Rd_takeWord 4 (some .boolean) :: ga_tbl
abbrev b_Js_length : ByteArray := prog_12_method_54_code
abbrev y_Js_length : MethodName := ⟨"java/lang/String", "length", "()I"⟩
def w_Js_length : List Cond := .code y_Js_length b_Js_length 1 (some .int) :: ga_tbl
abbrev b_Js_coder : ByteArray := prog_12_method_152_code
abbrev y_Js_coder : MethodName := ⟨"java/lang/String", "coder", "()B"⟩
def w_Js_coder : List Cond := .code y_Js_coder b_Js_coder 1 (some .byte) :: ga_tbl
abbrev b_Rd_signAt : ByteArray := prog_5_method_15_code
abbrev y_Rd_signAt : MethodName := ⟨"PatternText$PatternReader", "signAt", "(I)I"⟩
def w_Rd_signAt : List Cond := .code y_Rd_signAt b_Rd_signAt 2 (some .int) :: ga_tbl
abbrev b_Rd_isLetter : ByteArray := prog_5_method_17_code
abbrev y_Rd_isLetter : MethodName := ⟨"PatternText$PatternReader", "isLetter", "(I)Z"⟩
def w_Rd_isLetter : List Cond := .code y_Rd_isLetter b_Rd_isLetter 1 (some .boolean) :: ga_tbl
abbrev b_Js_charAt : ByteArray := prog_12_method_56_code
abbrev y_Js_charAt : MethodName := ⟨"java/lang/String", "charAt", "(I)C"⟩
def w_Js_charAt : List Cond := .code y_Js_charAt b_Js_charAt 2 (some .char) :: ga_tbl
abbrev b_Js_isLatin1 : ByteArray := prog_12_method_154_code
abbrev y_Js_isLatin1 : MethodName := ⟨"java/lang/String", "isLatin1", "()Z"⟩
def w_Js_isLatin1 : List Cond := .code y_Js_isLatin1 b_Js_isLatin1 1 (some .boolean) :: ga_tbl
abbrev b_Jl_charAt : ByteArray := prog_13_method_2_code
abbrev y_Jl_charAt : MethodName := ⟨"java/lang/StringLatin1", "charAt", "([BI)C"⟩
def w_Jl_charAt : List Cond := .code y_Jl_charAt b_Jl_charAt 2 (some .char) :: ga_tbl
abbrev b_Js_checkIndex : ByteArray := prog_12_method_155_code
abbrev y_Js_checkIndex : MethodName := ⟨"java/lang/String", "checkIndex", "(II)V"⟩
def w_Js_checkIndex : List Cond := .code y_Js_checkIndex b_Js_checkIndex 2 none :: ga_tbl
abbrev b_Jp_checkIndex : ByteArray := prog_17_method_11_code
abbrev y_Jp_checkIndex : MethodName := ⟨"jdk/internal/util/Preconditions", "checkIndex", "(IILjava/util/function/BiFunction;)I"⟩
def w_Jp_checkIndex : List Cond := .code y_Jp_checkIndex b_Jp_checkIndex 3 (some .int) :: ga_tbl
abbrev b_Rd_takeSpace : ByteArray := prog_5_method_11_code
abbrev y_Rd_takeSpace : MethodName := ⟨"PatternText$PatternReader", "takeSpace", "()Z"⟩
def w_Rd_takeSpace : List Cond := .code y_Rd_takeSpace b_Rd_takeSpace 1 (some .boolean) :: ga_tbl
abbrev b_Rd_signHere : ByteArray := prog_5_method_14_code
abbrev y_Rd_signHere : MethodName := ⟨"PatternText$PatternReader", "signHere", "()I"⟩
def w_Rd_signHere : List Cond := .code y_Rd_signHere b_Rd_signHere 1 (some .int) :: ga_tbl
abbrev b_Rd_takeNumber : ByteArray := prog_5_method_13_code
abbrev y_Rd_takeNumber : MethodName := ⟨"PatternText$PatternReader", "takeNumber", "(II)Z"⟩
def w_Rd_takeNumber : List Cond := .code y_Rd_takeNumber b_Rd_takeNumber 7 (some .boolean) :: ga_tbl
abbrev b_Rd_isDigit : ByteArray := prog_5_method_16_code
abbrev y_Rd_isDigit : MethodName := ⟨"PatternText$PatternReader", "isDigit", "(I)Z"⟩
def w_Rd_isDigit : List Cond := .code y_Rd_isDigit b_Rd_isDigit 1 (some .boolean) :: ga_tbl
abbrev b_Rd_takeClauses : ByteArray := prog_5_method_7_code
abbrev y_Rd_takeClauses : MethodName := ⟨"PatternText$PatternReader", "takeClauses", "()Z"⟩
def w_Rd_takeClauses : List Cond := .code y_Rd_takeClauses b_Rd_takeClauses 1 (some .boolean) :: ga_tbl
abbrev b_Rd_takeNextWord : ByteArray := prog_5_method_10_code
abbrev y_Rd_takeNextWord : MethodName := ⟨"PatternText$PatternReader", "takeNextWord", "(Ljava/lang/String;)Z"⟩
def w_Rd_takeNextWord : List Cond := .code y_Rd_takeNextWord b_Rd_takeNextWord 3 (some .boolean) :: ga_tbl
abbrev b_Rd_takeMonths : ByteArray := prog_5_method_9_code
abbrev y_Rd_takeMonths : MethodName := ⟨"PatternText$PatternReader", "takeMonths", "()Z"⟩
def w_Rd_takeMonths : List Cond := .code y_Rd_takeMonths b_Rd_takeMonths 3 (some .boolean) :: ga_tbl
abbrev b_Rd_takeEnd : ByteArray := prog_5_method_8_code
abbrev y_Rd_takeEnd : MethodName := ⟨"PatternText$PatternReader", "takeEnd", "()Z"⟩
def w_Rd_takeEnd : List Cond := .code y_Rd_takeEnd b_Rd_takeEnd 1 (some .boolean) :: ga_tbl
abbrev b_Pa_keepPattern : ByteArray := prog_1_method_18_code
abbrev y_Pa_keepPattern : MethodName := ⟨"PatternText", "keepPattern", "()I"⟩
def w_Pa_keepPattern : List Cond := .code y_Pa_keepPattern b_Pa_keepPattern 2 (some .int) :: ga_tbl
abbrev b_Rd_makePattern : ByteArray := prog_5_method_4_code
abbrev y_Rd_makePattern : MethodName := ⟨"PatternText$PatternReader", "makePattern", "(I)LPatternText$Pattern;"⟩
def w_Rd_makePattern : List Cond := .code y_Rd_makePattern b_Rd_makePattern 3 (some (.object "PatternText$Pattern")) :: ga_tbl
abbrev b_Pt_init : ByteArray := prog_4_method_1_code
abbrev y_Pt_init : MethodName := ⟨"PatternText$Pattern", "<init>", "(I[IIIIIZ)V"⟩
def w_Pt_init : List Cond := .code y_Pt_init b_Pt_init 8 none :: ga_tbl
abbrev b_Rd_forget : ByteArray := prog_5_method_3_code
abbrev y_Rd_forget : MethodName := ⟨"PatternText$PatternReader", "forget", "()V"⟩
def w_Rd_forget : List Cond := .code y_Rd_forget b_Rd_forget 1 none :: ga_tbl
abbrev b_Pa_foretell : ByteArray := prog_1_method_4_code
abbrev y_Pa_foretell : MethodName := ⟨"PatternText", "foretell", "(III)I"⟩
def w_Pa_foretell : List Cond := .code y_Pa_foretell b_Pa_foretell 5 (some .int) :: ga_tbl
abbrev b_Pa_patternOf : ByteArray := prog_1_method_17_code
abbrev y_Pa_patternOf : MethodName := ⟨"PatternText", "patternOf", "(I)LPatternText$Pattern;"⟩
def w_Pa_patternOf : List Cond := .code y_Pa_patternOf b_Pa_patternOf 2 (some (.object "PatternText$Pattern")) :: ga_tbl
abbrev b_Pa_isDay : ByteArray := prog_1_method_16_code
abbrev y_Pa_isDay : MethodName := ⟨"PatternText", "isDay", "(I)Z"⟩
def w_Pa_isDay : List Cond := .code y_Pa_isDay b_Pa_isDay 1 (some .boolean) :: ga_tbl
abbrev b_Li_cutTo : ByteArray := prog_3_method_6_code
abbrev y_Li_cutTo : MethodName := ⟨"PatternText$IssueList", "cutTo", "(I)V"⟩
def w_Li_cutTo : List Cond := .code y_Li_cutTo b_Li_cutTo 2 none :: ga_tbl
abbrev b_Li_goOn : ByteArray := prog_3_method_7_code
abbrev y_Li_goOn : MethodName := ⟨"PatternText$IssueList", "goOn", "(LPatternText$Pattern;IILPatternText$Holidays;)V"⟩
def w_Li_goOn : List Cond := .code y_Li_goOn b_Li_goOn 9 none :: ga_tbl
abbrev b_Pt_stepWithIssue : ByteArray := prog_4_method_3_code
abbrev y_Pt_stepWithIssue : MethodName := ⟨"PatternText$Pattern", "stepWithIssue", "(I)I"⟩
def w_Pt_stepWithIssue : List Cond := .code y_Pt_stepWithIssue b_Pt_stepWithIssue 4 (some .int) :: ga_tbl
abbrev b_Pt_hasIssueOn : ByteArray := prog_4_method_2_code
abbrev y_Pt_hasIssueOn : MethodName := ⟨"PatternText$Pattern", "hasIssueOn", "(I)Z"⟩
def w_Pt_hasIssueOn : List Cond := .code y_Pt_hasIssueOn b_Pt_hasIssueOn 3 (some .boolean) :: ga_tbl
abbrev b_Ho_dayFrom : ByteArray := prog_2_method_3_code
abbrev y_Ho_dayFrom : MethodName := ⟨"PatternText$Holidays", "dayFrom", "(I)I"⟩
def w_Ho_dayFrom : List Cond := .code y_Ho_dayFrom b_Ho_dayFrom 4 (some .int) :: ga_tbl
abbrev b_Pt_numbersOfIssue : ByteArray := prog_4_method_5_code
abbrev y_Pt_numbersOfIssue : MethodName := ⟨"PatternText$Pattern", "numbersOfIssue", "(I)I"⟩
def w_Pt_numbersOfIssue : List Cond := .code y_Pt_numbersOfIssue b_Pt_numbersOfIssue 2 (some .int) :: ga_tbl
abbrev b_Li_put : ByteArray := prog_3_method_8_code
abbrev y_Li_put : MethodName := ⟨"PatternText$IssueList", "put", "(LPatternText$Pattern;III)V"⟩
def w_Li_put : List Cond := .code y_Li_put b_Li_put 7 none :: ga_tbl
abbrev b_Pt_asTold : ByteArray := prog_4_method_7_code
abbrev y_Pt_asTold : MethodName := ⟨"PatternText$Pattern", "asTold", "(I)I"⟩
def w_Pt_asTold : List Cond := .code y_Pt_asTold b_Pt_asTold 2 (some .int) :: ga_tbl
abbrev b_Pt_volumeOf : ByteArray := prog_4_method_6_code
abbrev y_Pt_volumeOf : MethodName := ⟨"PatternText$Pattern", "volumeOf", "(I)I"⟩
def w_Pt_volumeOf : List Cond := .code y_Pt_volumeOf b_Pt_volumeOf 2 (some .int) :: ga_tbl
abbrev b_Pa_changed : ByteArray := prog_1_method_5_code
abbrev y_Pa_changed : MethodName := ⟨"PatternText", "changed", "(II)I"⟩
def w_Pa_changed : List Cond := .code y_Pa_changed b_Pa_changed 6 (some .int) :: ga_tbl
abbrev b_Li_countBefore : ByteArray := prog_3_method_5_code
abbrev y_Li_countBefore : MethodName := ⟨"PatternText$IssueList", "countBefore", "(I)I"⟩
def w_Li_countBefore : List Cond := .code y_Li_countBefore b_Li_countBefore 3 (some .int) :: ga_tbl
abbrev b_Li_hasComeFrom : ByteArray := prog_3_method_4_code
abbrev y_Li_hasComeFrom : MethodName := ⟨"PatternText$IssueList", "hasComeFrom", "(I)Z"⟩
def w_Li_hasComeFrom : List Cond := .code y_Li_hasComeFrom b_Li_hasComeFrom 3 (some .boolean) :: ga_tbl
abbrev b_Li_isOut : ByteArray := prog_3_method_3_code
abbrev y_Li_isOut : MethodName := ⟨"PatternText$IssueList", "isOut", "(I)Z"⟩
def w_Li_isOut : List Cond := .code y_Li_isOut b_Li_isOut 2 (some .boolean) :: ga_tbl
abbrev b_Li_has : ByteArray := prog_3_method_2_code
abbrev y_Li_has : MethodName := ⟨"PatternText$IssueList", "has", "(I)Z"⟩
def w_Li_has : List Cond := .code y_Li_has b_Li_has 2 (some .boolean) :: ga_tbl
abbrev b_Pa_issue : ByteArray := prog_1_method_6_code
abbrev y_Pa_issue : MethodName := ⟨"PatternText", "issue", "(II)I"⟩
def w_Pa_issue : List Cond := .code y_Pa_issue b_Pa_issue 3 (some .int) :: ga_tbl
abbrev b_Pa_date : ByteArray := prog_1_method_7_code
abbrev y_Pa_date : MethodName := ⟨"PatternText", "date", "(I)J"⟩
def w_Pa_date : List Cond := .code y_Pa_date b_Pa_date 2 (some .long) :: ga_tbl
abbrev b_Pa_irregular : ByteArray := prog_1_method_8_code
abbrev y_Pa_irregular : MethodName := ⟨"PatternText", "irregular", "(II)I"⟩
def w_Pa_irregular : List Cond := .code y_Pa_irregular b_Pa_irregular 3 (some .int) :: ga_tbl
abbrev b_Pa_holiday : ByteArray := prog_1_method_9_code
abbrev y_Pa_holiday : MethodName := ⟨"PatternText", "holiday", "(I)I"⟩
def w_Pa_holiday : List Cond := .code y_Pa_holiday b_Pa_holiday 2 (some .int) :: ga_tbl
abbrev b_Ho_add : ByteArray := prog_2_method_2_code
abbrev y_Ho_add : MethodName := ⟨"PatternText$Holidays", "add", "(I)Z"⟩
def w_Ho_add : List Cond := .code y_Ho_add b_Ho_add 3 (some .boolean) :: ga_tbl
abbrev b_Pa_came : ByteArray := prog_1_method_10_code
abbrev y_Pa_came : MethodName := ⟨"PatternText", "came", "(II)I"⟩
def w_Pa_came : List Cond := .code y_Pa_came b_Pa_came 3 (some .int) :: ga_tbl
abbrev b_Pa_late : ByteArray := prog_1_method_11_code
abbrev y_Pa_late : MethodName := ⟨"PatternText", "late", "(II)I"⟩
def w_Pa_late : List Cond := .code y_Pa_late b_Pa_late 4 (some .int) :: ga_tbl
abbrev b_Pa_claim : ByteArray := prog_1_method_12_code
abbrev y_Pa_claim : MethodName := ⟨"PatternText", "claim", "(II)I"⟩
def w_Pa_claim : List Cond := .code y_Pa_claim b_Pa_claim 5 (some .int) :: ga_tbl
abbrev b_Li_countOverdue : ByteArray := prog_3_method_10_code
abbrev y_Li_countOverdue : MethodName := ⟨"PatternText$IssueList", "countOverdue", "(I)I"⟩
def w_Li_countOverdue : List Cond := .code y_Li_countOverdue b_Li_countOverdue 4 (some .int) :: ga_tbl
abbrev b_Li_isOverdue : ByteArray := prog_3_method_9_code
abbrev y_Li_isOverdue : MethodName := ⟨"PatternText$IssueList", "isOverdue", "(II)Z"⟩
def w_Li_isOverdue : List Cond := .code y_Li_isOverdue b_Li_isOverdue 3 (some .boolean) :: ga_tbl
abbrev b_Li_nextOverdue : ByteArray := prog_3_method_11_code
abbrev y_Li_nextOverdue : MethodName := ⟨"PatternText$IssueList", "nextOverdue", "(II)I"⟩
def w_Li_nextOverdue : List Cond := .code y_Li_nextOverdue b_Li_nextOverdue 6 (some .int) :: ga_tbl
abbrev b_Li_isClaimedBefore : ByteArray := prog_3_method_12_code
abbrev y_Li_isClaimedBefore : MethodName := ⟨"PatternText$IssueList", "isClaimedBefore", "(II)Z"⟩
def w_Li_isClaimedBefore : List Cond := .code y_Li_isClaimedBefore b_Li_isClaimedBefore 3 (some .boolean) :: ga_tbl
abbrev b_Pa_print : ByteArray := prog_1_method_13_code
abbrev y_Pa_print : MethodName := ⟨"PatternText", "print", "(I)I"⟩
def w_Pa_print : List Cond := .code y_Pa_print b_Pa_print 3 (some .int) :: ga_tbl
abbrev b_Pa_at : ByteArray := prog_1_method_14_code
abbrev y_Pa_at : MethodName := ⟨"PatternText", "at", "(I)I"⟩
def w_Pa_at : List Cond := .code y_Pa_at b_Pa_at 2 (some .int) :: ga_tbl
abbrev b_La_yearly : ByteArray := method_3_code
abbrev y_La_yearly : MethodName := ⟨"PatternTextLaw", "yearly", "(LPatternText;III[J)I"⟩
abbrev b_Pa_yearly : ByteArray := prog_1_method_15_code
abbrev y_Pa_yearly : MethodName := ⟨"PatternText", "yearly", "(III)I"⟩
def w_Pa_yearly : List Cond := .code y_Pa_yearly b_Pa_yearly 5 (some .int) :: ga_tbl
abbrev b_Pt_issuesInYearFrom : ByteArray := prog_4_method_4_code
abbrev y_Pt_issuesInYearFrom : MethodName := ⟨"PatternText$Pattern", "issuesInYearFrom", "(I)I"⟩
def w_Pt_issuesInYearFrom : List Cond := .code y_Pt_issuesInYearFrom b_Pt_issuesInYearFrom 5 (some .int) :: ga_tbl
abbrev b_Mo_init : ByteArray := prog_7_method_1_code
abbrev y_Mo_init : MethodName := ⟨"PatternTextModel", "<init>", "()V"⟩
def w_Mo_init : List Cond := .code y_Mo_init b_Mo_init 1 none :: ga_tbl
abbrev b_Mo_thrown : ByteArray := prog_7_method_2_code
abbrev y_Mo_thrown : MethodName := ⟨"PatternTextModel", "thrown", "()I"⟩
def w_Mo_thrown : List Cond := .code y_Mo_thrown b_Mo_thrown 1 (some .int) :: ga_tbl
abbrev b_Mo_sign : ByteArray := prog_7_method_3_code
abbrev y_Mo_sign : MethodName := ⟨"PatternTextModel", "sign", "(I)V"⟩
def w_Mo_sign : List Cond := .code y_Mo_sign b_Mo_sign 2 none :: ga_tbl
abbrev b_Mo_read : ByteArray := prog_7_method_15_code
abbrev y_Mo_read : MethodName := ⟨"PatternTextModel", "read", "()I"⟩
def w_Mo_read : List Cond := .code y_Mo_read b_Mo_read 4 (some .int) :: ga_tbl
abbrev b_Mo_reads : ByteArray := prog_7_method_14_code
abbrev y_Mo_reads : MethodName := ⟨"PatternTextModel", "reads", "(I)Z"⟩
def w_Mo_reads : List Cond := .code y_Mo_reads b_Mo_reads 7 (some .boolean) :: ga_tbl
abbrev b_Mo_every : ByteArray := prog_7_method_12_code
abbrev y_Mo_every : MethodName := ⟨"PatternTextModel", "every", "(I)Z"⟩
def w_Mo_every : List Cond := .code y_Mo_every b_Mo_every 6 (some .boolean) :: ga_tbl
abbrev b_Mo_word : ByteArray := prog_7_method_9_code
abbrev y_Mo_word : MethodName := ⟨"PatternTextModel", "word", "()J"⟩
def w_Mo_word : List Cond := .code y_Mo_word b_Mo_word 4 (some .long) :: ga_tbl
abbrev b_Mo_look : ByteArray := prog_7_method_4_code
abbrev y_Mo_look : MethodName := ⟨"PatternTextModel", "look", "(I)I"⟩
def w_Mo_look : List Cond := .code y_Mo_look b_Mo_look 2 (some .int) :: ga_tbl
abbrev b_Mo_isLetter : ByteArray := prog_7_method_7_code
abbrev y_Mo_isLetter : MethodName := ⟨"PatternTextModel", "isLetter", "(I)Z"⟩
def w_Mo_isLetter : List Cond := .code y_Mo_isLetter b_Mo_isLetter 1 (some .boolean) :: ga_tbl
abbrev b_Mo_bad : ByteArray := prog_7_method_5_code
abbrev y_Mo_bad : MethodName := ⟨"PatternTextModel", "bad", "(I)Z"⟩
def w_Mo_bad : List Cond := .code y_Mo_bad b_Mo_bad 2 (some .boolean) :: ga_tbl
abbrev b_Mo_pass : ByteArray := prog_7_method_10_code
abbrev y_Mo_pass : MethodName := ⟨"PatternTextModel", "pass", "()V"⟩
def w_Mo_pass : List Cond := .code y_Mo_pass b_Mo_pass 1 none :: ga_tbl
abbrev b_Mo_space : ByteArray := prog_7_method_8_code
abbrev y_Mo_space : MethodName := ⟨"PatternTextModel", "space", "()Z"⟩
def w_Mo_space : List Cond := .code y_Mo_space b_Mo_space 1 (some .boolean) :: ga_tbl
abbrev b_Mo_number : ByteArray := prog_7_method_11_code
abbrev y_Mo_number : MethodName := ⟨"PatternTextModel", "number", "(II)I"⟩
def w_Mo_number : List Cond := .code y_Mo_number b_Mo_number 6 (some .int) :: ga_tbl
abbrev b_Mo_isDigit : ByteArray := prog_7_method_6_code
abbrev y_Mo_isDigit : MethodName := ⟨"PatternTextModel", "isDigit", "(I)Z"⟩
def w_Mo_isDigit : List Cond := .code y_Mo_isDigit b_Mo_isDigit 1 (some .boolean) :: ga_tbl
abbrev b_Mo_skip : ByteArray := prog_7_method_13_code
abbrev y_Mo_skip : MethodName := ⟨"PatternTextModel", "skip", "(I)Z"⟩
def w_Mo_skip : List Cond := .code y_Mo_skip b_Mo_skip 6 (some .boolean) :: ga_tbl
abbrev b_Mo_holiday : ByteArray := prog_7_method_19_code
abbrev y_Mo_holiday : MethodName := ⟨"PatternTextModel", "holiday", "(I)I"⟩
def w_Mo_holiday : List Cond := .code y_Mo_holiday b_Mo_holiday 2 (some .int) :: ga_tbl
abbrev b_Mo_isDay : ByteArray := prog_7_method_17_code
abbrev y_Mo_isDay : MethodName := ⟨"PatternTextModel", "isDay", "(I)Z"⟩
def w_Mo_isDay : List Cond := .code y_Mo_isDay b_Mo_isDay 1 (some .boolean) :: ga_tbl
abbrev b_Mo_isHoliday : ByteArray := prog_7_method_18_code
abbrev y_Mo_isHoliday : MethodName := ⟨"PatternTextModel", "isHoliday", "(I)Z"⟩
def w_Mo_isHoliday : List Cond := .code y_Mo_isHoliday b_Mo_isHoliday 4 (some .boolean) :: ga_tbl
abbrev b_Mo_foretell : ByteArray := prog_7_method_22_code
abbrev y_Mo_foretell : MethodName := ⟨"PatternTextModel", "foretell", "(III)I"⟩
def w_Mo_foretell : List Cond := .code y_Mo_foretell b_Mo_foretell 4 (some .int) :: ga_tbl
abbrev b_Mo_isPattern : ByteArray := prog_7_method_16_code
abbrev y_Mo_isPattern : MethodName := ⟨"PatternTextModel", "isPattern", "(I)Z"⟩
def w_Mo_isPattern : List Cond := .code y_Mo_isPattern b_Mo_isPattern 2 (some .boolean) :: ga_tbl
abbrev b_Mo_go : ByteArray := prog_7_method_21_code
abbrev y_Mo_go : MethodName := ⟨"PatternTextModel", "go", "(IIII)V"⟩
def w_Mo_go : List Cond := .code y_Mo_go b_Mo_go 11 none :: ga_tbl
abbrev b_Mo_has : ByteArray := prog_7_method_20_code
abbrev y_Mo_has : MethodName := ⟨"PatternTextModel", "has", "(II)Z"⟩
def w_Mo_has : List Cond := .code y_Mo_has b_Mo_has 3 (some .boolean) :: ga_tbl
abbrev b_Mo_changed : ByteArray := prog_7_method_23_code
abbrev y_Mo_changed : MethodName := ⟨"PatternTextModel", "changed", "(II)I"⟩
def w_Mo_changed : List Cond := .code y_Mo_changed b_Mo_changed 5 (some .int) :: ga_tbl
abbrev b_Mo_issue : ByteArray := prog_7_method_26_code
abbrev y_Mo_issue : MethodName := ⟨"PatternTextModel", "issue", "(II)I"⟩
def w_Mo_issue : List Cond := .code y_Mo_issue b_Mo_issue 4 (some .int) :: ga_tbl
abbrev b_Mo_isIssue : ByteArray := prog_7_method_24_code
abbrev y_Mo_isIssue : MethodName := ⟨"PatternTextModel", "isIssue", "(I)Z"⟩
def w_Mo_isIssue : List Cond := .code y_Mo_isIssue b_Mo_isIssue 2 (some .boolean) :: ga_tbl
abbrev b_Mo_told : ByteArray := prog_7_method_25_code
abbrev y_Mo_told : MethodName := ⟨"PatternTextModel", "told", "(II)I"⟩
def w_Mo_told : List Cond := .code y_Mo_told b_Mo_told 3 (some .int) :: ga_tbl
abbrev b_Mo_date : ByteArray := prog_7_method_27_code
abbrev y_Mo_date : MethodName := ⟨"PatternTextModel", "date", "(I)J"⟩
def w_Mo_date : List Cond := .code y_Mo_date b_Mo_date 2 (some .long) :: ga_tbl
abbrev b_Mo_irregular : ByteArray := prog_7_method_28_code
abbrev y_Mo_irregular : MethodName := ⟨"PatternTextModel", "irregular", "(II)I"⟩
def w_Mo_irregular : List Cond := .code y_Mo_irregular b_Mo_irregular 3 (some .int) :: ga_tbl
abbrev b_Mo_came : ByteArray := prog_7_method_29_code
abbrev y_Mo_came : MethodName := ⟨"PatternTextModel", "came", "(II)I"⟩
def w_Mo_came : List Cond := .code y_Mo_came b_Mo_came 3 (some .int) :: ga_tbl
abbrev b_Mo_late : ByteArray := prog_7_method_31_code
abbrev y_Mo_late : MethodName := ⟨"PatternTextModel", "late", "(II)I"⟩
def w_Mo_late : List Cond := .code y_Mo_late b_Mo_late 3 (some .int) :: ga_tbl
abbrev b_Mo_lateOn : ByteArray := prog_7_method_30_code
abbrev y_Mo_lateOn : MethodName := ⟨"PatternTextModel", "lateOn", "(II)I"⟩
def w_Mo_lateOn : List Cond := .code y_Mo_lateOn b_Mo_lateOn 4 (some .int) :: ga_tbl
abbrev b_Mo_claim : ByteArray := prog_7_method_33_code
abbrev y_Mo_claim : MethodName := ⟨"PatternTextModel", "claim", "(II)I"⟩
def w_Mo_claim : List Cond := .code y_Mo_claim b_Mo_claim 6 (some .int) :: ga_tbl
abbrev b_Mo_isClaim : ByteArray := prog_7_method_32_code
abbrev y_Mo_isClaim : MethodName := ⟨"PatternTextModel", "isClaim", "(II)Z"⟩
def w_Mo_isClaim : List Cond := .code y_Mo_isClaim b_Mo_isClaim 3 (some .boolean) :: ga_tbl
abbrev b_Mo_print : ByteArray := prog_7_method_34_code
abbrev y_Mo_print : MethodName := ⟨"PatternTextModel", "print", "(I)I"⟩
def w_Mo_print : List Cond := .code y_Mo_print b_Mo_print 3 (some .int) :: ga_tbl
abbrev b_Mo_at : ByteArray := prog_7_method_35_code
abbrev y_Mo_at : MethodName := ⟨"PatternTextModel", "at", "(I)I"⟩
def w_Mo_at : List Cond := .code y_Mo_at b_Mo_at 2 (some .int) :: ga_tbl
abbrev b_Mo_yearly : ByteArray := prog_7_method_36_code
abbrev y_Mo_yearly : MethodName := ⟨"PatternTextModel", "yearly", "(III)I"⟩
def w_Mo_yearly : List Cond := .code y_Mo_yearly b_Mo_yearly 6 (some .int) :: ga_tbl
def ga_nest : List Cond := [Cond.methodLinkNest "PatternText" 9 ⟨"PatternText$PatternReader", "<init>", "()V"⟩ "PatternText", Cond.fieldLinkNest "PatternText" 52 "PatternText$PatternReader" "place" "I" "PatternText", Cond.methodLinkNest "PatternText" 24 ⟨"PatternText$Holidays", "<init>", "()V"⟩ "PatternText", Cond.fieldLinkNest "PatternText" 116 "PatternText$Holidays" "count" "I" "PatternText", Cond.methodLinkNest "PatternText" 31 ⟨"PatternText$IssueList", "<init>", "()V"⟩ "PatternText", Cond.fieldLinkNest "PatternText" 108 "PatternText$IssueList" "expected" "[I" "PatternText", Cond.fieldLinkNest "PatternText" 94 "PatternText$IssueList" "numbers" "[I" "PatternText", Cond.fieldLinkNest "PatternText" 90 "PatternText$IssueList" "told" "[I" "PatternText", Cond.fieldLinkNest "PatternText" 100 "PatternText$IssueList" "toldSecond" "[I" "PatternText", Cond.fieldLinkNest "PatternText" 97 "PatternText$IssueList" "volumes" "[I" "PatternText", Cond.fieldLinkNest "PatternText" 103 "PatternText$IssueList" "patterns" "[I" "PatternText", Cond.fieldLinkNest "PatternText" 119 "PatternText$IssueList" "comeOn" "[I" "PatternText", Cond.fieldLinkNest "PatternText" 77 "PatternText$IssueList" "size" "I" "PatternText", Cond.fieldLinkNest "PatternText$IssueList" 84 "PatternText$Pattern" "place" "I" "PatternText", Cond.fieldLinkNest "PatternText" 134 "PatternText$Pattern" "signs" "[I" "PatternText", Cond.fieldLinkNest "PatternText$IssueList" 75 "PatternText$Pattern" "stepDays" "I" "PatternText"]
def ga_N (U : State) : Prop := ∀ w ∈ ga_nest, va_Nw w U
theorem ga_N.same {u U : State} (h : u.vm = U.vm) (hN : ga_N u) : ga_N U := fun w hw => va_Nw.same (by simp only [ga_nest, List.mem_cons, List.not_mem_nil, or_false] at hw; rcases hw with rfl | rfl | rfl | rfl | rfl | rfl | rfl | rfl | rfl | rfl | rfl | rfl | rfl | rfl | rfl | rfl <;> rfl) h (hN w hw)
theorem ga_N.warm {s U : State} (hW : s.WarmedH U.vm) (hN : ga_N s) : ga_N U := fun w hw => by
  have h0 := hN w hw
  simp only [ga_nest, List.mem_cons, List.not_mem_nil, or_false] at hw
  rcases hw with rfl | rfl | rfl | rfl | rfl | rfl | rfl | rfl | rfl | rfl | rfl | rfl | rfl | rfl | rfl | rfl <;> first | exact va_Nw.warmF hW h0 | exact va_Nw.warmM hW h0
theorem nw_60 {U : State} {A : Array Value} (h : ga_N U) : (Cond.methodLinkNest "PatternText" 9 ⟨"PatternText$PatternReader", "<init>", "()V"⟩ "PatternText" : Cond).before A U = true := va_Nw.use rfl (h _ (List.mem_of_getElem? (i := 0) rfl))
theorem nv_60 {U : State} (h : ga_N U) : va_Nw (Cond.methodLinkNest "PatternText" 9 ⟨"PatternText$PatternReader", "<init>", "()V"⟩ "PatternText" : Cond) U := h _ (List.mem_of_getElem? (i := 0) rfl)
theorem nw_67 {U : State} {A : Array Value} (h : ga_N U) : (Cond.fieldLinkNest "PatternText" 52 "PatternText$PatternReader" "place" "I" "PatternText" : Cond).before A U = true := va_Nw.use rfl (h _ (List.mem_of_getElem? (i := 1) rfl))
theorem nv_67 {U : State} (h : ga_N U) : va_Nw (Cond.fieldLinkNest "PatternText" 52 "PatternText$PatternReader" "place" "I" "PatternText" : Cond) U := h _ (List.mem_of_getElem? (i := 1) rfl)
theorem nw_98 {U : State} {A : Array Value} (h : ga_N U) : (Cond.methodLinkNest "PatternText" 24 ⟨"PatternText$Holidays", "<init>", "()V"⟩ "PatternText" : Cond).before A U = true := va_Nw.use rfl (h _ (List.mem_of_getElem? (i := 2) rfl))
theorem nv_98 {U : State} (h : ga_N U) : va_Nw (Cond.methodLinkNest "PatternText" 24 ⟨"PatternText$Holidays", "<init>", "()V"⟩ "PatternText" : Cond) U := h _ (List.mem_of_getElem? (i := 2) rfl)
theorem nw_104 {U : State} {A : Array Value} (h : ga_N U) : (Cond.fieldLinkNest "PatternText" 116 "PatternText$Holidays" "count" "I" "PatternText" : Cond).before A U = true := va_Nw.use rfl (h _ (List.mem_of_getElem? (i := 3) rfl))
theorem nv_104 {U : State} (h : ga_N U) : va_Nw (Cond.fieldLinkNest "PatternText" 116 "PatternText$Holidays" "count" "I" "PatternText" : Cond) U := h _ (List.mem_of_getElem? (i := 3) rfl)
theorem nw_112 {U : State} {A : Array Value} (h : ga_N U) : (Cond.methodLinkNest "PatternText" 31 ⟨"PatternText$IssueList", "<init>", "()V"⟩ "PatternText" : Cond).before A U = true := va_Nw.use rfl (h _ (List.mem_of_getElem? (i := 4) rfl))
theorem nv_112 {U : State} (h : ga_N U) : va_Nw (Cond.methodLinkNest "PatternText" 31 ⟨"PatternText$IssueList", "<init>", "()V"⟩ "PatternText" : Cond) U := h _ (List.mem_of_getElem? (i := 4) rfl)
theorem nw_118 {U : State} {A : Array Value} (h : ga_N U) : (Cond.fieldLinkNest "PatternText" 108 "PatternText$IssueList" "expected" "[I" "PatternText" : Cond).before A U = true := va_Nw.use rfl (h _ (List.mem_of_getElem? (i := 5) rfl))
theorem nv_118 {U : State} (h : ga_N U) : va_Nw (Cond.fieldLinkNest "PatternText" 108 "PatternText$IssueList" "expected" "[I" "PatternText" : Cond) U := h _ (List.mem_of_getElem? (i := 5) rfl)
theorem nw_121 {U : State} {A : Array Value} (h : ga_N U) : (Cond.fieldLinkNest "PatternText" 94 "PatternText$IssueList" "numbers" "[I" "PatternText" : Cond).before A U = true := va_Nw.use rfl (h _ (List.mem_of_getElem? (i := 6) rfl))
theorem nv_121 {U : State} (h : ga_N U) : va_Nw (Cond.fieldLinkNest "PatternText" 94 "PatternText$IssueList" "numbers" "[I" "PatternText" : Cond) U := h _ (List.mem_of_getElem? (i := 6) rfl)
theorem nw_123 {U : State} {A : Array Value} (h : ga_N U) : (Cond.fieldLinkNest "PatternText" 90 "PatternText$IssueList" "told" "[I" "PatternText" : Cond).before A U = true := va_Nw.use rfl (h _ (List.mem_of_getElem? (i := 7) rfl))
theorem nv_123 {U : State} (h : ga_N U) : va_Nw (Cond.fieldLinkNest "PatternText" 90 "PatternText$IssueList" "told" "[I" "PatternText" : Cond) U := h _ (List.mem_of_getElem? (i := 7) rfl)
theorem nw_125 {U : State} {A : Array Value} (h : ga_N U) : (Cond.fieldLinkNest "PatternText" 100 "PatternText$IssueList" "toldSecond" "[I" "PatternText" : Cond).before A U = true := va_Nw.use rfl (h _ (List.mem_of_getElem? (i := 8) rfl))
theorem nv_125 {U : State} (h : ga_N U) : va_Nw (Cond.fieldLinkNest "PatternText" 100 "PatternText$IssueList" "toldSecond" "[I" "PatternText" : Cond) U := h _ (List.mem_of_getElem? (i := 8) rfl)
theorem nw_127 {U : State} {A : Array Value} (h : ga_N U) : (Cond.fieldLinkNest "PatternText" 97 "PatternText$IssueList" "volumes" "[I" "PatternText" : Cond).before A U = true := va_Nw.use rfl (h _ (List.mem_of_getElem? (i := 9) rfl))
theorem nv_127 {U : State} (h : ga_N U) : va_Nw (Cond.fieldLinkNest "PatternText" 97 "PatternText$IssueList" "volumes" "[I" "PatternText" : Cond) U := h _ (List.mem_of_getElem? (i := 9) rfl)
theorem nw_129 {U : State} {A : Array Value} (h : ga_N U) : (Cond.fieldLinkNest "PatternText" 103 "PatternText$IssueList" "patterns" "[I" "PatternText" : Cond).before A U = true := va_Nw.use rfl (h _ (List.mem_of_getElem? (i := 10) rfl))
theorem nv_129 {U : State} (h : ga_N U) : va_Nw (Cond.fieldLinkNest "PatternText" 103 "PatternText$IssueList" "patterns" "[I" "PatternText" : Cond) U := h _ (List.mem_of_getElem? (i := 10) rfl)
theorem nw_131 {U : State} {A : Array Value} (h : ga_N U) : (Cond.fieldLinkNest "PatternText" 119 "PatternText$IssueList" "comeOn" "[I" "PatternText" : Cond).before A U = true := va_Nw.use rfl (h _ (List.mem_of_getElem? (i := 11) rfl))
theorem nv_131 {U : State} (h : ga_N U) : va_Nw (Cond.fieldLinkNest "PatternText" 119 "PatternText$IssueList" "comeOn" "[I" "PatternText" : Cond) U := h _ (List.mem_of_getElem? (i := 11) rfl)
theorem nw_133 {U : State} {A : Array Value} (h : ga_N U) : (Cond.fieldLinkNest "PatternText" 77 "PatternText$IssueList" "size" "I" "PatternText" : Cond).before A U = true := va_Nw.use rfl (h _ (List.mem_of_getElem? (i := 12) rfl))
theorem nv_133 {U : State} (h : ga_N U) : va_Nw (Cond.fieldLinkNest "PatternText" 77 "PatternText$IssueList" "size" "I" "PatternText" : Cond) U := h _ (List.mem_of_getElem? (i := 12) rfl)
theorem nw_313 {U : State} {A : Array Value} (h : ga_N U) : (Cond.fieldLinkNest "PatternText$IssueList" 84 "PatternText$Pattern" "place" "I" "PatternText" : Cond).before A U = true := va_Nw.use rfl (h _ (List.mem_of_getElem? (i := 13) rfl))
theorem nv_313 {U : State} (h : ga_N U) : va_Nw (Cond.fieldLinkNest "PatternText$IssueList" 84 "PatternText$Pattern" "place" "I" "PatternText" : Cond) U := h _ (List.mem_of_getElem? (i := 13) rfl)
theorem nw_315 {U : State} {A : Array Value} (h : ga_N U) : (Cond.fieldLinkNest "PatternText" 134 "PatternText$Pattern" "signs" "[I" "PatternText" : Cond).before A U = true := va_Nw.use rfl (h _ (List.mem_of_getElem? (i := 14) rfl))
theorem nv_315 {U : State} (h : ga_N U) : va_Nw (Cond.fieldLinkNest "PatternText" 134 "PatternText$Pattern" "signs" "[I" "PatternText" : Cond) U := h _ (List.mem_of_getElem? (i := 14) rfl)
theorem nw_317 {U : State} {A : Array Value} (h : ga_N U) : (Cond.fieldLinkNest "PatternText$IssueList" 75 "PatternText$Pattern" "stepDays" "I" "PatternText" : Cond).before A U = true := va_Nw.use rfl (h _ (List.mem_of_getElem? (i := 15) rfl))
theorem nv_317 {U : State} (h : ga_N U) : va_Nw (Cond.fieldLinkNest "PatternText$IssueList" 75 "PatternText$Pattern" "stepDays" "I" "PatternText" : Cond) U := h _ (List.mem_of_getElem? (i := 15) rfl)
theorem ga_in {y : MethodName} {cd : ByteArray} {n : Nat} {r : Option FieldType} (h : Cond.code y cd n r ∈ ga_tbl) : GoodIn ga_tbl (.code y cd n r :: ga_tbl) := fun w hw => by
  rcases List.mem_cons.mp hw with e | e
  · subst e; exact ⟨h, ga_good h⟩
  · exact ⟨e, ga_good e⟩
theorem ga_V {own C : String} {i : Nat} {y : MethodName} {ws : List Cond} (h1 : Cond.methodLink own i y ∈ ga_tbl) (h2 : Cond.instanceMethod y ∈ ga_tbl) (h3 : Cond.selects C y y ∈ ga_tbl) (h4 : Cond.initialized C ∈ ga_tbl) (h : GoodIn ga_tbl ws) : GoodIn ga_tbl (wsV own i C y ws) := fun w hw => by
  rcases List.mem_append.mp hw with e | e
  · simp only [List.mem_cons, List.not_mem_nil, or_false] at e
    rcases e with e | e | e | e <;> subst e
    · exact ⟨h1, ga_good h1⟩
    · exact ⟨h2, ga_good h2⟩
    · exact ⟨h3, ga_good h3⟩
    · exact ⟨h4, ga_good h4⟩
  · exact h w e
theorem ga_S {own : String} {i : Nat} {y : MethodName} {ws : List Cond} (h1 : Cond.methodLink own i y ∈ ga_tbl) (h2 : Cond.static y ∈ ga_tbl) (h4 : Cond.initialized own ∈ ga_tbl) (h : GoodIn ga_tbl ws) : GoodIn ga_tbl (wsS own i y ws) := fun w hw => by
  rcases List.mem_append.mp hw with e | e
  · simp only [List.mem_cons, List.not_mem_nil, or_false] at e
    rcases e with e | e | e <;> subst e
    · exact ⟨h1, ga_good h1⟩
    · exact ⟨h2, ga_good h2⟩
    · exact ⟨h4, ga_good h4⟩
  · exact h w e
theorem ga_T {own : String} {i : Nat} {y : MethodName} {ws : List Cond} (h1 : Cond.methodLink own i y ∈ ga_tbl) (h2 : Cond.static y ∈ ga_tbl) (h4 : Cond.initialized y.cls ∈ ga_tbl) (h : GoodIn ga_tbl ws) : GoodIn ga_tbl (va_wsS own i y ws) := fun w hw => by
  rcases List.mem_append.mp hw with e | e
  · simp only [List.mem_cons, List.not_mem_nil, or_false] at e
    rcases e with e | e | e <;> subst e
    · exact ⟨h1, ga_good h1⟩
    · exact ⟨h2, ga_good h2⟩
    · exact ⟨h4, ga_good h4⟩
  · exact h w e
end
section
/-! the words of the tables, by their places -/
theorem kw_0 : (Cond.selects "PatternText$PatternReader" ⟨"PatternText$PatternReader", "takeHowOften", "()Z"⟩ ⟨"PatternText$PatternReader", "takeHowOften", "()Z"⟩ : Cond) ∈ ga_tbl := ga_m (List.mem_of_getElem? (i := 0) (by decide +kernel)) rfl
theorem kw_1 : (Cond.selects "PatternText$PatternReader" ⟨"PatternText$PatternReader", "takeWord", "(Ljava/lang/String;)Z"⟩ ⟨"PatternText$PatternReader", "takeWord", "(Ljava/lang/String;)Z"⟩ : Cond) ∈ ga_tbl := ga_m (List.mem_of_getElem? (i := 1) (by decide +kernel)) rfl
theorem kw_2 : (Cond.selects "PatternText$PatternReader" ⟨"PatternText$PatternReader", "signAt", "(I)I"⟩ ⟨"PatternText$PatternReader", "signAt", "(I)I"⟩ : Cond) ∈ ga_tbl := ga_m (List.mem_of_getElem? (i := 2) (by decide +kernel)) rfl
theorem kw_3 : (Cond.selects "PatternText$PatternReader" ⟨"PatternText$PatternReader", "takeSpace", "()Z"⟩ ⟨"PatternText$PatternReader", "takeSpace", "()Z"⟩ : Cond) ∈ ga_tbl := ga_m (List.mem_of_getElem? (i := 3) (by decide +kernel)) rfl
theorem kw_4 : (Cond.selects "PatternText$PatternReader" ⟨"PatternText$PatternReader", "signHere", "()I"⟩ ⟨"PatternText$PatternReader", "signHere", "()I"⟩ : Cond) ∈ ga_tbl := ga_m (List.mem_of_getElem? (i := 4) (by decide +kernel)) rfl
theorem kw_5 : (Cond.selects "PatternText$PatternReader" ⟨"PatternText$PatternReader", "takeNumber", "(II)Z"⟩ ⟨"PatternText$PatternReader", "takeNumber", "(II)Z"⟩ : Cond) ∈ ga_tbl := ga_m (List.mem_of_getElem? (i := 5) (by decide +kernel)) rfl
theorem kw_6 : (Cond.selects "PatternText$PatternReader" ⟨"PatternText$PatternReader", "takeClauses", "()Z"⟩ ⟨"PatternText$PatternReader", "takeClauses", "()Z"⟩ : Cond) ∈ ga_tbl := ga_m (List.mem_of_getElem? (i := 6) (by decide +kernel)) rfl
theorem kw_7 : (Cond.selects "PatternText$PatternReader" ⟨"PatternText$PatternReader", "takeNextWord", "(Ljava/lang/String;)Z"⟩ ⟨"PatternText$PatternReader", "takeNextWord", "(Ljava/lang/String;)Z"⟩ : Cond) ∈ ga_tbl := ga_m (List.mem_of_getElem? (i := 7) (by decide +kernel)) rfl
theorem kw_8 : (Cond.selects "PatternText$PatternReader" ⟨"PatternText$PatternReader", "takeMonths", "()Z"⟩ ⟨"PatternText$PatternReader", "takeMonths", "()Z"⟩ : Cond) ∈ ga_tbl := ga_m (List.mem_of_getElem? (i := 8) (by decide +kernel)) rfl
theorem kw_9 : (Cond.selects "PatternText$PatternReader" ⟨"PatternText$PatternReader", "takeEnd", "()Z"⟩ ⟨"PatternText$PatternReader", "takeEnd", "()Z"⟩ : Cond) ∈ ga_tbl := ga_m (List.mem_of_getElem? (i := 9) (by decide +kernel)) rfl
theorem kw_10 : (Cond.selects "PatternText" ⟨"PatternText", "keepPattern", "()I"⟩ ⟨"PatternText", "keepPattern", "()I"⟩ : Cond) ∈ ga_tbl := ga_m (List.mem_of_getElem? (i := 10) (by decide +kernel)) rfl
theorem kw_11 : (Cond.selects "PatternText" ⟨"PatternText", "patternOf", "(I)LPatternText$Pattern;"⟩ ⟨"PatternText", "patternOf", "(I)LPatternText$Pattern;"⟩ : Cond) ∈ ga_tbl := ga_m (List.mem_of_getElem? (i := 11) (by decide +kernel)) rfl
theorem kw_12 : (Cond.selects "PatternText$IssueList" ⟨"PatternText$IssueList", "put", "(LPatternText$Pattern;III)V"⟩ ⟨"PatternText$IssueList", "put", "(LPatternText$Pattern;III)V"⟩ : Cond) ∈ ga_tbl := ga_m (List.mem_of_getElem? (i := 12) (by decide +kernel)) rfl
theorem kw_13 : (Cond.selects "PatternText$IssueList" ⟨"PatternText$IssueList", "isOverdue", "(II)Z"⟩ ⟨"PatternText$IssueList", "isOverdue", "(II)Z"⟩ : Cond) ∈ ga_tbl := ga_m (List.mem_of_getElem? (i := 13) (by decide +kernel)) rfl
theorem kw_14 : (Cond.selects "PatternText$IssueList" ⟨"PatternText$IssueList", "isClaimedBefore", "(II)Z"⟩ ⟨"PatternText$IssueList", "isClaimedBefore", "(II)Z"⟩ : Cond) ∈ ga_tbl := ga_m (List.mem_of_getElem? (i := 14) (by decide +kernel)) rfl
theorem kw_15 : (Cond.selects "java/lang/Throwable" ⟨"java/lang/Throwable", "fillInStackTrace", "(I)Ljava/lang/Throwable;"⟩ ⟨"java/lang/Throwable", "fillInStackTrace", "(I)Ljava/lang/Throwable;"⟩ : Cond) ∈ ga_tbl := ga_m (List.mem_of_getElem? (i := 15) (by decide +kernel)) rfl
theorem kw_16 : (Cond.selects "PatternTextModel" ⟨"PatternTextModel", "reads", "(I)Z"⟩ ⟨"PatternTextModel", "reads", "(I)Z"⟩ : Cond) ∈ ga_tbl := ga_m (List.mem_of_getElem? (i := 16) (by decide +kernel)) rfl
theorem kw_17 : (Cond.selects "PatternTextModel" ⟨"PatternTextModel", "every", "(I)Z"⟩ ⟨"PatternTextModel", "every", "(I)Z"⟩ : Cond) ∈ ga_tbl := ga_m (List.mem_of_getElem? (i := 17) (by decide +kernel)) rfl
theorem kw_18 : (Cond.selects "PatternTextModel" ⟨"PatternTextModel", "word", "()J"⟩ ⟨"PatternTextModel", "word", "()J"⟩ : Cond) ∈ ga_tbl := ga_m (List.mem_of_getElem? (i := 18) (by decide +kernel)) rfl
theorem kw_19 : (Cond.selects "PatternTextModel" ⟨"PatternTextModel", "look", "(I)I"⟩ ⟨"PatternTextModel", "look", "(I)I"⟩ : Cond) ∈ ga_tbl := ga_m (List.mem_of_getElem? (i := 19) (by decide +kernel)) rfl
theorem kw_20 : (Cond.selects "PatternTextModel" ⟨"PatternTextModel", "bad", "(I)Z"⟩ ⟨"PatternTextModel", "bad", "(I)Z"⟩ : Cond) ∈ ga_tbl := ga_m (List.mem_of_getElem? (i := 20) (by decide +kernel)) rfl
theorem kw_21 : (Cond.selects "PatternTextModel" ⟨"PatternTextModel", "pass", "()V"⟩ ⟨"PatternTextModel", "pass", "()V"⟩ : Cond) ∈ ga_tbl := ga_m (List.mem_of_getElem? (i := 21) (by decide +kernel)) rfl
theorem kw_22 : (Cond.selects "PatternTextModel" ⟨"PatternTextModel", "space", "()Z"⟩ ⟨"PatternTextModel", "space", "()Z"⟩ : Cond) ∈ ga_tbl := ga_m (List.mem_of_getElem? (i := 22) (by decide +kernel)) rfl
theorem kw_23 : (Cond.selects "PatternTextModel" ⟨"PatternTextModel", "number", "(II)I"⟩ ⟨"PatternTextModel", "number", "(II)I"⟩ : Cond) ∈ ga_tbl := ga_m (List.mem_of_getElem? (i := 23) (by decide +kernel)) rfl
theorem kw_24 : (Cond.selects "PatternTextModel" ⟨"PatternTextModel", "skip", "(I)Z"⟩ ⟨"PatternTextModel", "skip", "(I)Z"⟩ : Cond) ∈ ga_tbl := ga_m (List.mem_of_getElem? (i := 24) (by decide +kernel)) rfl
theorem kw_25 : (Cond.selects "PatternTextModel" ⟨"PatternTextModel", "isHoliday", "(I)Z"⟩ ⟨"PatternTextModel", "isHoliday", "(I)Z"⟩ : Cond) ∈ ga_tbl := ga_m (List.mem_of_getElem? (i := 25) (by decide +kernel)) rfl
theorem kw_26 : (Cond.selects "PatternTextModel" ⟨"PatternTextModel", "isPattern", "(I)Z"⟩ ⟨"PatternTextModel", "isPattern", "(I)Z"⟩ : Cond) ∈ ga_tbl := ga_m (List.mem_of_getElem? (i := 26) (by decide +kernel)) rfl
theorem kw_27 : (Cond.selects "PatternTextModel" ⟨"PatternTextModel", "go", "(IIII)V"⟩ ⟨"PatternTextModel", "go", "(IIII)V"⟩ : Cond) ∈ ga_tbl := ga_m (List.mem_of_getElem? (i := 27) (by decide +kernel)) rfl
theorem kw_28 : (Cond.selects "PatternTextModel" ⟨"PatternTextModel", "has", "(II)Z"⟩ ⟨"PatternTextModel", "has", "(II)Z"⟩ : Cond) ∈ ga_tbl := ga_m (List.mem_of_getElem? (i := 28) (by decide +kernel)) rfl
theorem kw_29 : (Cond.selects "PatternTextModel" ⟨"PatternTextModel", "isIssue", "(I)Z"⟩ ⟨"PatternTextModel", "isIssue", "(I)Z"⟩ : Cond) ∈ ga_tbl := ga_m (List.mem_of_getElem? (i := 29) (by decide +kernel)) rfl
theorem kw_30 : (Cond.selects "PatternTextModel" ⟨"PatternTextModel", "told", "(II)I"⟩ ⟨"PatternTextModel", "told", "(II)I"⟩ : Cond) ∈ ga_tbl := ga_m (List.mem_of_getElem? (i := 30) (by decide +kernel)) rfl
theorem kw_31 : (Cond.selects "PatternTextModel" ⟨"PatternTextModel", "lateOn", "(II)I"⟩ ⟨"PatternTextModel", "lateOn", "(II)I"⟩ : Cond) ∈ ga_tbl := ga_m (List.mem_of_getElem? (i := 31) (by decide +kernel)) rfl
theorem kw_32 : (Cond.selects "PatternTextModel" ⟨"PatternTextModel", "isClaim", "(II)Z"⟩ ⟨"PatternTextModel", "isClaim", "(II)Z"⟩ : Cond) ∈ ga_tbl := ga_m (List.mem_of_getElem? (i := 32) (by decide +kernel)) rfl
theorem kw_33 : (Cond.initialized "PatternTextLaw" : Cond) ∈ ga_tbl := ga_m (List.mem_of_getElem? (i := 33) (by decide +kernel)) rfl
theorem kw_34 : (Cond.initialized "PatternText" : Cond) ∈ ga_tbl := ga_m (List.mem_of_getElem? (i := 34) (by decide +kernel)) rfl
theorem kw_35 : (Cond.initialized "PatternText$PatternReader" : Cond) ∈ ga_tbl := ga_m (List.mem_of_getElem? (i := 35) (by decide +kernel)) rfl
theorem kw_36 : (Cond.initialized "PatternText$Holidays" : Cond) ∈ ga_tbl := ga_m (List.mem_of_getElem? (i := 36) (by decide +kernel)) rfl
theorem kw_37 : (Cond.initialized "PatternText$IssueList" : Cond) ∈ ga_tbl := ga_m (List.mem_of_getElem? (i := 37) (by decide +kernel)) rfl
theorem kw_38 : (Cond.initialized "PatternTextModel" : Cond) ∈ ga_tbl := ga_m (List.mem_of_getElem? (i := 38) (by decide +kernel)) rfl
theorem kw_39 : (Cond.initialized "java/lang/String" : Cond) ∈ ga_tbl := ga_m (List.mem_of_getElem? (i := 39) (by decide +kernel)) rfl
theorem kw_40 : (Cond.initialized "java/lang/StringLatin1" : Cond) ∈ ga_tbl := ga_m (List.mem_of_getElem? (i := 40) (by decide +kernel)) rfl
theorem kw_41 : (Cond.initialized "jdk/internal/util/Preconditions" : Cond) ∈ ga_tbl := ga_m (List.mem_of_getElem? (i := 41) (by decide +kernel)) rfl
theorem kw_42 : (Cond.initialized "java/lang/StringUTF16" : Cond) ∈ ga_tbl := ga_m (List.mem_of_getElem? (i := 42) (by decide +kernel)) rfl
theorem kw_43 : (Cond.initialized "java/lang/Math" : Cond) ∈ ga_tbl := ga_m (List.mem_of_getElem? (i := 43) (by decide +kernel)) rfl
theorem kw_44 : (Cond.initialized "java/lang/System" : Cond) ∈ ga_tbl := ga_m (List.mem_of_getElem? (i := 44) (by decide +kernel)) rfl
theorem kw_45 : (Cond.initialized "PatternText$Pattern" : Cond) ∈ ga_tbl := ga_m (List.mem_of_getElem? (i := 45) (by decide +kernel)) rfl
theorem kw_46 : (Cond.initialized "java/lang/Throwable" : Cond) ∈ ga_tbl := ga_m (List.mem_of_getElem? (i := 46) (by decide +kernel)) rfl
theorem kw_47 : (Cond.initialized "java/lang/Exception" : Cond) ∈ ga_tbl := ga_m (List.mem_of_getElem? (i := 47) (by decide +kernel)) rfl
theorem kw_48 : (Cond.initialized "java/lang/RuntimeException" : Cond) ∈ ga_tbl := ga_m (List.mem_of_getElem? (i := 48) (by decide +kernel)) rfl
theorem kw_49 : (Cond.initialized "java/lang/ArithmeticException" : Cond) ∈ ga_tbl := ga_m (List.mem_of_getElem? (i := 49) (by decide +kernel)) rfl
theorem kw_50 : (Cond.classLink "PatternTextLaw" 8 "PatternText" : Cond) ∈ ga_tbl := ga_m (List.mem_of_getElem? (i := 50) (by decide +kernel)) rfl
theorem kw_51 : (Cond.instantiable "PatternText" 6 : Cond) ∈ ga_tbl := ga_m (List.mem_of_getElem? (i := 51) (by decide +kernel)) rfl
theorem kw_52 : (Cond.methodLink "PatternTextLaw" 15 ⟨"PatternText", "<init>", "()V"⟩ : Cond) ∈ ga_tbl := ga_m (List.mem_of_getElem? (i := 52) (by decide +kernel)) rfl
theorem kw_53 : (Cond.instanceMethod ⟨"PatternText", "<init>", "()V"⟩ : Cond) ∈ ga_tbl := ga_m (List.mem_of_getElem? (i := 53) (by decide +kernel)) rfl
theorem kw_54 : (Cond.code ⟨"PatternText", "<init>", "()V"⟩ prog_1_method_1_code 1 none : Cond) ∈ ga_tbl := ga_m (List.mem_of_getElem? (i := 54) (by decide +kernel)) rfl
theorem kw_55 : (Cond.methodLink "PatternText" 1 ⟨"java/lang/Object", "<init>", "()V"⟩ : Cond) ∈ ga_tbl := ga_m (List.mem_of_getElem? (i := 55) (by decide +kernel)) rfl
theorem kw_56 : (Cond.instanceMethod ⟨"java/lang/Object", "<init>", "()V"⟩ : Cond) ∈ ga_tbl := ga_m (List.mem_of_getElem? (i := 56) (by decide +kernel)) rfl
theorem kw_57 : (Cond.code ⟨"java/lang/Object", "<init>", "()V"⟩ object_method_1_code 1 none : Cond) ∈ ga_tbl := ga_m (List.mem_of_getElem? (i := 57) (by decide +kernel)) rfl
theorem kw_58 : (Cond.classLink "PatternText" 7 "PatternText$PatternReader" : Cond) ∈ ga_tbl := ga_m (List.mem_of_getElem? (i := 58) (by decide +kernel)) rfl
theorem kw_59 : (Cond.instantiable "PatternText$PatternReader" 9 : Cond) ∈ ga_tbl := ga_m (List.mem_of_getElem? (i := 59) (by decide +kernel)) rfl
theorem kl_60 : (Cond.methodLinkNest "PatternText" 9 ⟨"PatternText$PatternReader", "<init>", "()V"⟩ "PatternText" : Cond) ∈ lw_tbl := List.mem_of_getElem? (i := 60) (by decide +kernel)
theorem kw_61 : (Cond.instanceMethod ⟨"PatternText$PatternReader", "<init>", "()V"⟩ : Cond) ∈ ga_tbl := ga_m (List.mem_of_getElem? (i := 61) (by decide +kernel)) rfl
theorem kw_62 : (Cond.code ⟨"PatternText$PatternReader", "<init>", "()V"⟩ prog_5_method_1_code 1 none : Cond) ∈ ga_tbl := ga_m (List.mem_of_getElem? (i := 62) (by decide +kernel)) rfl
theorem kw_63 : (Cond.methodLink "PatternText$PatternReader" 3 ⟨"java/lang/Object", "<init>", "()V"⟩ : Cond) ∈ ga_tbl := ga_m (List.mem_of_getElem? (i := 63) (by decide +kernel)) rfl
theorem kw_64 : (Cond.fieldLink "PatternText$PatternReader" 9 "PatternText$PatternReader" "signs" "[I" : Cond) ∈ ga_tbl := ga_m (List.mem_of_getElem? (i := 64) (by decide +kernel)) rfl
theorem kw_65 : (Cond.fieldLink "PatternText$PatternReader" 15 "PatternText$PatternReader" "length" "I" : Cond) ∈ ga_tbl := ga_m (List.mem_of_getElem? (i := 65) (by decide +kernel)) rfl
theorem kw_66 : (Cond.fieldLink "PatternText$PatternReader" 19 "PatternText$PatternReader" "place" "I" : Cond) ∈ ga_tbl := ga_m (List.mem_of_getElem? (i := 66) (by decide +kernel)) rfl
theorem kl_67 : (Cond.fieldLinkNest "PatternText" 52 "PatternText$PatternReader" "place" "I" "PatternText" : Cond) ∈ lw_tbl := List.mem_of_getElem? (i := 67) (by decide +kernel)
theorem kw_68 : (Cond.fieldLink "PatternText$PatternReader" 22 "PatternText$PatternReader" "number" "I" : Cond) ∈ ga_tbl := ga_m (List.mem_of_getElem? (i := 68) (by decide +kernel)) rfl
theorem kw_69 : (Cond.fieldLink "PatternText$PatternReader" 25 "PatternText$PatternReader" "stepDays" "I" : Cond) ∈ ga_tbl := ga_m (List.mem_of_getElem? (i := 69) (by decide +kernel)) rfl
theorem kw_70 : (Cond.fieldLink "PatternText$PatternReader" 28 "PatternText$PatternReader" "monthsLeftOut" "I" : Cond) ∈ ga_tbl := ga_m (List.mem_of_getElem? (i := 70) (by decide +kernel)) rfl
theorem kw_71 : (Cond.fieldLink "PatternText$PatternReader" 31 "PatternText$PatternReader" "joined" "I" : Cond) ∈ ga_tbl := ga_m (List.mem_of_getElem? (i := 71) (by decide +kernel)) rfl
theorem kw_72 : (Cond.fieldLink "PatternText$PatternReader" 34 "PatternText$PatternReader" "volume" "I" : Cond) ∈ ga_tbl := ga_m (List.mem_of_getElem? (i := 72) (by decide +kernel)) rfl
theorem kw_73 : (Cond.fieldLink "PatternText$PatternReader" 37 "PatternText$PatternReader" "restarts" "Z" : Cond) ∈ ga_tbl := ga_m (List.mem_of_getElem? (i := 73) (by decide +kernel)) rfl
theorem kw_74 : (Cond.laysFinal "PatternText$PatternReader" "PatternText$PatternReader" "signs" "[I" : Cond) ∈ ga_tbl := ga_m (List.mem_of_getElem? (i := 74) (by decide +kernel)) rfl
theorem kw_75 : (Cond.soleField "PatternText$PatternReader" "signs" : Cond) ∈ ga_tbl := ga_m (List.mem_of_getElem? (i := 75) (by decide +kernel)) rfl
theorem kw_76 : (Cond.lays "PatternText$PatternReader" "PatternText$PatternReader" "length" "I" : Cond) ∈ ga_tbl := ga_m (List.mem_of_getElem? (i := 76) (by decide +kernel)) rfl
theorem kw_77 : (Cond.soleField "PatternText$PatternReader" "length" : Cond) ∈ ga_tbl := ga_m (List.mem_of_getElem? (i := 77) (by decide +kernel)) rfl
theorem kw_78 : (Cond.lays "PatternText$PatternReader" "PatternText$PatternReader" "place" "I" : Cond) ∈ ga_tbl := ga_m (List.mem_of_getElem? (i := 78) (by decide +kernel)) rfl
theorem kw_79 : (Cond.soleField "PatternText$PatternReader" "place" : Cond) ∈ ga_tbl := ga_m (List.mem_of_getElem? (i := 79) (by decide +kernel)) rfl
theorem kw_80 : (Cond.lays "PatternText$PatternReader" "PatternText$PatternReader" "number" "I" : Cond) ∈ ga_tbl := ga_m (List.mem_of_getElem? (i := 80) (by decide +kernel)) rfl
theorem kw_81 : (Cond.soleField "PatternText$PatternReader" "number" : Cond) ∈ ga_tbl := ga_m (List.mem_of_getElem? (i := 81) (by decide +kernel)) rfl
theorem kw_82 : (Cond.lays "PatternText$PatternReader" "PatternText$PatternReader" "stepDays" "I" : Cond) ∈ ga_tbl := ga_m (List.mem_of_getElem? (i := 82) (by decide +kernel)) rfl
theorem kw_83 : (Cond.soleField "PatternText$PatternReader" "stepDays" : Cond) ∈ ga_tbl := ga_m (List.mem_of_getElem? (i := 83) (by decide +kernel)) rfl
theorem kw_84 : (Cond.lays "PatternText$PatternReader" "PatternText$PatternReader" "monthsLeftOut" "I" : Cond) ∈ ga_tbl := ga_m (List.mem_of_getElem? (i := 84) (by decide +kernel)) rfl
theorem kw_85 : (Cond.soleField "PatternText$PatternReader" "monthsLeftOut" : Cond) ∈ ga_tbl := ga_m (List.mem_of_getElem? (i := 85) (by decide +kernel)) rfl
theorem kw_86 : (Cond.lays "PatternText$PatternReader" "PatternText$PatternReader" "joined" "I" : Cond) ∈ ga_tbl := ga_m (List.mem_of_getElem? (i := 86) (by decide +kernel)) rfl
theorem kw_87 : (Cond.soleField "PatternText$PatternReader" "joined" : Cond) ∈ ga_tbl := ga_m (List.mem_of_getElem? (i := 87) (by decide +kernel)) rfl
theorem kw_88 : (Cond.lays "PatternText$PatternReader" "PatternText$PatternReader" "volume" "I" : Cond) ∈ ga_tbl := ga_m (List.mem_of_getElem? (i := 88) (by decide +kernel)) rfl
theorem kw_89 : (Cond.soleField "PatternText$PatternReader" "volume" : Cond) ∈ ga_tbl := ga_m (List.mem_of_getElem? (i := 89) (by decide +kernel)) rfl
theorem kw_90 : (Cond.lays "PatternText$PatternReader" "PatternText$PatternReader" "restarts" "Z" : Cond) ∈ ga_tbl := ga_m (List.mem_of_getElem? (i := 90) (by decide +kernel)) rfl
theorem kw_91 : (Cond.soleField "PatternText$PatternReader" "restarts" : Cond) ∈ ga_tbl := ga_m (List.mem_of_getElem? (i := 91) (by decide +kernel)) rfl
theorem kw_92 : (Cond.superclass "PatternText$PatternReader" "java/lang/Object" : Cond) ∈ ga_tbl := ga_m (List.mem_of_getElem? (i := 92) (by decide +kernel)) rfl
theorem kw_93 : (Cond.arrayClass .int : Cond) ∈ ga_tbl := ga_m (List.mem_of_getElem? (i := 93) (by decide +kernel)) rfl
theorem kw_94 : (Cond.classLink "PatternText" 16 "PatternText$Pattern" : Cond) ∈ ga_tbl := ga_m (List.mem_of_getElem? (i := 94) (by decide +kernel)) rfl
theorem kl_95 : (Cond.arrayOver (.object "PatternText$Pattern") : Cond) ∈ lw_tbl := List.mem_of_getElem? (i := 95) (by decide +kernel)
theorem kw_96 : (Cond.classLink "PatternText" 22 "PatternText$Holidays" : Cond) ∈ ga_tbl := ga_m (List.mem_of_getElem? (i := 96) (by decide +kernel)) rfl
theorem kw_97 : (Cond.instantiable "PatternText$Holidays" 2 : Cond) ∈ ga_tbl := ga_m (List.mem_of_getElem? (i := 97) (by decide +kernel)) rfl
theorem kl_98 : (Cond.methodLinkNest "PatternText" 24 ⟨"PatternText$Holidays", "<init>", "()V"⟩ "PatternText" : Cond) ∈ lw_tbl := List.mem_of_getElem? (i := 98) (by decide +kernel)
theorem kw_99 : (Cond.instanceMethod ⟨"PatternText$Holidays", "<init>", "()V"⟩ : Cond) ∈ ga_tbl := ga_m (List.mem_of_getElem? (i := 99) (by decide +kernel)) rfl
theorem kw_100 : (Cond.code ⟨"PatternText$Holidays", "<init>", "()V"⟩ prog_2_method_1_code 1 none : Cond) ∈ ga_tbl := ga_m (List.mem_of_getElem? (i := 100) (by decide +kernel)) rfl
theorem kw_101 : (Cond.methodLink "PatternText$Holidays" 3 ⟨"java/lang/Object", "<init>", "()V"⟩ : Cond) ∈ ga_tbl := ga_m (List.mem_of_getElem? (i := 101) (by decide +kernel)) rfl
theorem kw_102 : (Cond.fieldLink "PatternText$Holidays" 9 "PatternText$Holidays" "days" "[I" : Cond) ∈ ga_tbl := ga_m (List.mem_of_getElem? (i := 102) (by decide +kernel)) rfl
theorem kw_103 : (Cond.fieldLink "PatternText$Holidays" 15 "PatternText$Holidays" "count" "I" : Cond) ∈ ga_tbl := ga_m (List.mem_of_getElem? (i := 103) (by decide +kernel)) rfl
theorem kl_104 : (Cond.fieldLinkNest "PatternText" 116 "PatternText$Holidays" "count" "I" "PatternText" : Cond) ∈ lw_tbl := List.mem_of_getElem? (i := 104) (by decide +kernel)
theorem kw_105 : (Cond.laysFinal "PatternText$Holidays" "PatternText$Holidays" "days" "[I" : Cond) ∈ ga_tbl := ga_m (List.mem_of_getElem? (i := 105) (by decide +kernel)) rfl
theorem kw_106 : (Cond.soleField "PatternText$Holidays" "days" : Cond) ∈ ga_tbl := ga_m (List.mem_of_getElem? (i := 106) (by decide +kernel)) rfl
theorem kw_107 : (Cond.lays "PatternText$Holidays" "PatternText$Holidays" "count" "I" : Cond) ∈ ga_tbl := ga_m (List.mem_of_getElem? (i := 107) (by decide +kernel)) rfl
theorem kw_108 : (Cond.soleField "PatternText$Holidays" "count" : Cond) ∈ ga_tbl := ga_m (List.mem_of_getElem? (i := 108) (by decide +kernel)) rfl
theorem kw_109 : (Cond.superclass "PatternText$Holidays" "java/lang/Object" : Cond) ∈ ga_tbl := ga_m (List.mem_of_getElem? (i := 109) (by decide +kernel)) rfl
theorem kw_110 : (Cond.classLink "PatternText" 29 "PatternText$IssueList" : Cond) ∈ ga_tbl := ga_m (List.mem_of_getElem? (i := 110) (by decide +kernel)) rfl
theorem kw_111 : (Cond.instantiable "PatternText$IssueList" 10 : Cond) ∈ ga_tbl := ga_m (List.mem_of_getElem? (i := 111) (by decide +kernel)) rfl
theorem kl_112 : (Cond.methodLinkNest "PatternText" 31 ⟨"PatternText$IssueList", "<init>", "()V"⟩ "PatternText" : Cond) ∈ lw_tbl := List.mem_of_getElem? (i := 112) (by decide +kernel)
theorem kw_113 : (Cond.instanceMethod ⟨"PatternText$IssueList", "<init>", "()V"⟩ : Cond) ∈ ga_tbl := ga_m (List.mem_of_getElem? (i := 113) (by decide +kernel)) rfl
theorem kw_114 : (Cond.code ⟨"PatternText$IssueList", "<init>", "()V"⟩ prog_3_method_1_code 1 none : Cond) ∈ ga_tbl := ga_m (List.mem_of_getElem? (i := 114) (by decide +kernel)) rfl
theorem kw_115 : (Cond.methodLink "PatternText$IssueList" 3 ⟨"java/lang/Object", "<init>", "()V"⟩ : Cond) ∈ ga_tbl := ga_m (List.mem_of_getElem? (i := 115) (by decide +kernel)) rfl
theorem kw_116 : (Cond.fieldLink "PatternText$IssueList" 9 "PatternText$IssueList" "steps" "[I" : Cond) ∈ ga_tbl := ga_m (List.mem_of_getElem? (i := 116) (by decide +kernel)) rfl
theorem kw_117 : (Cond.fieldLink "PatternText$IssueList" 15 "PatternText$IssueList" "expected" "[I" : Cond) ∈ ga_tbl := ga_m (List.mem_of_getElem? (i := 117) (by decide +kernel)) rfl
theorem kl_118 : (Cond.fieldLinkNest "PatternText" 108 "PatternText$IssueList" "expected" "[I" "PatternText" : Cond) ∈ lw_tbl := List.mem_of_getElem? (i := 118) (by decide +kernel)
theorem kw_119 : (Cond.fieldLink "PatternText$IssueList" 18 "PatternText$IssueList" "lastNumbers" "[I" : Cond) ∈ ga_tbl := ga_m (List.mem_of_getElem? (i := 119) (by decide +kernel)) rfl
theorem kw_120 : (Cond.fieldLink "PatternText$IssueList" 21 "PatternText$IssueList" "numbers" "[I" : Cond) ∈ ga_tbl := ga_m (List.mem_of_getElem? (i := 120) (by decide +kernel)) rfl
theorem kl_121 : (Cond.fieldLinkNest "PatternText" 94 "PatternText$IssueList" "numbers" "[I" "PatternText" : Cond) ∈ lw_tbl := List.mem_of_getElem? (i := 121) (by decide +kernel)
theorem kw_122 : (Cond.fieldLink "PatternText$IssueList" 24 "PatternText$IssueList" "told" "[I" : Cond) ∈ ga_tbl := ga_m (List.mem_of_getElem? (i := 122) (by decide +kernel)) rfl
theorem kl_123 : (Cond.fieldLinkNest "PatternText" 90 "PatternText$IssueList" "told" "[I" "PatternText" : Cond) ∈ lw_tbl := List.mem_of_getElem? (i := 123) (by decide +kernel)
theorem kw_124 : (Cond.fieldLink "PatternText$IssueList" 27 "PatternText$IssueList" "toldSecond" "[I" : Cond) ∈ ga_tbl := ga_m (List.mem_of_getElem? (i := 124) (by decide +kernel)) rfl
theorem kl_125 : (Cond.fieldLinkNest "PatternText" 100 "PatternText$IssueList" "toldSecond" "[I" "PatternText" : Cond) ∈ lw_tbl := List.mem_of_getElem? (i := 125) (by decide +kernel)
theorem kw_126 : (Cond.fieldLink "PatternText$IssueList" 30 "PatternText$IssueList" "volumes" "[I" : Cond) ∈ ga_tbl := ga_m (List.mem_of_getElem? (i := 126) (by decide +kernel)) rfl
theorem kl_127 : (Cond.fieldLinkNest "PatternText" 97 "PatternText$IssueList" "volumes" "[I" "PatternText" : Cond) ∈ lw_tbl := List.mem_of_getElem? (i := 127) (by decide +kernel)
theorem kw_128 : (Cond.fieldLink "PatternText$IssueList" 33 "PatternText$IssueList" "patterns" "[I" : Cond) ∈ ga_tbl := ga_m (List.mem_of_getElem? (i := 128) (by decide +kernel)) rfl
theorem kl_129 : (Cond.fieldLinkNest "PatternText" 103 "PatternText$IssueList" "patterns" "[I" "PatternText" : Cond) ∈ lw_tbl := List.mem_of_getElem? (i := 129) (by decide +kernel)
theorem kw_130 : (Cond.fieldLink "PatternText$IssueList" 36 "PatternText$IssueList" "comeOn" "[I" : Cond) ∈ ga_tbl := ga_m (List.mem_of_getElem? (i := 130) (by decide +kernel)) rfl
theorem kl_131 : (Cond.fieldLinkNest "PatternText" 119 "PatternText$IssueList" "comeOn" "[I" "PatternText" : Cond) ∈ lw_tbl := List.mem_of_getElem? (i := 131) (by decide +kernel)
theorem kw_132 : (Cond.fieldLink "PatternText$IssueList" 39 "PatternText$IssueList" "size" "I" : Cond) ∈ ga_tbl := ga_m (List.mem_of_getElem? (i := 132) (by decide +kernel)) rfl
theorem kl_133 : (Cond.fieldLinkNest "PatternText" 77 "PatternText$IssueList" "size" "I" "PatternText" : Cond) ∈ lw_tbl := List.mem_of_getElem? (i := 133) (by decide +kernel)
theorem kw_134 : (Cond.laysFinal "PatternText$IssueList" "PatternText$IssueList" "steps" "[I" : Cond) ∈ ga_tbl := ga_m (List.mem_of_getElem? (i := 134) (by decide +kernel)) rfl
theorem kw_135 : (Cond.soleField "PatternText$IssueList" "steps" : Cond) ∈ ga_tbl := ga_m (List.mem_of_getElem? (i := 135) (by decide +kernel)) rfl
theorem kw_136 : (Cond.laysFinal "PatternText$IssueList" "PatternText$IssueList" "expected" "[I" : Cond) ∈ ga_tbl := ga_m (List.mem_of_getElem? (i := 136) (by decide +kernel)) rfl
theorem kw_137 : (Cond.soleField "PatternText$IssueList" "expected" : Cond) ∈ ga_tbl := ga_m (List.mem_of_getElem? (i := 137) (by decide +kernel)) rfl
theorem kw_138 : (Cond.laysFinal "PatternText$IssueList" "PatternText$IssueList" "lastNumbers" "[I" : Cond) ∈ ga_tbl := ga_m (List.mem_of_getElem? (i := 138) (by decide +kernel)) rfl
theorem kw_139 : (Cond.soleField "PatternText$IssueList" "lastNumbers" : Cond) ∈ ga_tbl := ga_m (List.mem_of_getElem? (i := 139) (by decide +kernel)) rfl
theorem kw_140 : (Cond.laysFinal "PatternText$IssueList" "PatternText$IssueList" "numbers" "[I" : Cond) ∈ ga_tbl := ga_m (List.mem_of_getElem? (i := 140) (by decide +kernel)) rfl
theorem kw_141 : (Cond.soleField "PatternText$IssueList" "numbers" : Cond) ∈ ga_tbl := ga_m (List.mem_of_getElem? (i := 141) (by decide +kernel)) rfl
theorem kw_142 : (Cond.laysFinal "PatternText$IssueList" "PatternText$IssueList" "told" "[I" : Cond) ∈ ga_tbl := ga_m (List.mem_of_getElem? (i := 142) (by decide +kernel)) rfl
theorem kw_143 : (Cond.soleField "PatternText$IssueList" "told" : Cond) ∈ ga_tbl := ga_m (List.mem_of_getElem? (i := 143) (by decide +kernel)) rfl
theorem kw_144 : (Cond.laysFinal "PatternText$IssueList" "PatternText$IssueList" "toldSecond" "[I" : Cond) ∈ ga_tbl := ga_m (List.mem_of_getElem? (i := 144) (by decide +kernel)) rfl
theorem kw_145 : (Cond.soleField "PatternText$IssueList" "toldSecond" : Cond) ∈ ga_tbl := ga_m (List.mem_of_getElem? (i := 145) (by decide +kernel)) rfl
theorem kw_146 : (Cond.laysFinal "PatternText$IssueList" "PatternText$IssueList" "volumes" "[I" : Cond) ∈ ga_tbl := ga_m (List.mem_of_getElem? (i := 146) (by decide +kernel)) rfl
theorem kw_147 : (Cond.soleField "PatternText$IssueList" "volumes" : Cond) ∈ ga_tbl := ga_m (List.mem_of_getElem? (i := 147) (by decide +kernel)) rfl
theorem kw_148 : (Cond.laysFinal "PatternText$IssueList" "PatternText$IssueList" "patterns" "[I" : Cond) ∈ ga_tbl := ga_m (List.mem_of_getElem? (i := 148) (by decide +kernel)) rfl
theorem kw_149 : (Cond.soleField "PatternText$IssueList" "patterns" : Cond) ∈ ga_tbl := ga_m (List.mem_of_getElem? (i := 149) (by decide +kernel)) rfl
theorem kw_150 : (Cond.laysFinal "PatternText$IssueList" "PatternText$IssueList" "comeOn" "[I" : Cond) ∈ ga_tbl := ga_m (List.mem_of_getElem? (i := 150) (by decide +kernel)) rfl
theorem kw_151 : (Cond.soleField "PatternText$IssueList" "comeOn" : Cond) ∈ ga_tbl := ga_m (List.mem_of_getElem? (i := 151) (by decide +kernel)) rfl
theorem kw_152 : (Cond.lays "PatternText$IssueList" "PatternText$IssueList" "size" "I" : Cond) ∈ ga_tbl := ga_m (List.mem_of_getElem? (i := 152) (by decide +kernel)) rfl
theorem kw_153 : (Cond.soleField "PatternText$IssueList" "size" : Cond) ∈ ga_tbl := ga_m (List.mem_of_getElem? (i := 153) (by decide +kernel)) rfl
theorem kw_154 : (Cond.superclass "PatternText$IssueList" "java/lang/Object" : Cond) ∈ ga_tbl := ga_m (List.mem_of_getElem? (i := 154) (by decide +kernel)) rfl
theorem kw_155 : (Cond.fieldLink "PatternText" 10 "PatternText" "reader" "LPatternText$PatternReader;" : Cond) ∈ ga_tbl := ga_m (List.mem_of_getElem? (i := 155) (by decide +kernel)) rfl
theorem kw_156 : (Cond.fieldLink "PatternText" 18 "PatternText" "patterns" "[LPatternText$Pattern;" : Cond) ∈ ga_tbl := ga_m (List.mem_of_getElem? (i := 156) (by decide +kernel)) rfl
theorem kw_157 : (Cond.fieldLink "PatternText" 25 "PatternText" "holidays" "LPatternText$Holidays;" : Cond) ∈ ga_tbl := ga_m (List.mem_of_getElem? (i := 157) (by decide +kernel)) rfl
theorem kw_158 : (Cond.fieldLink "PatternText" 32 "PatternText" "list" "LPatternText$IssueList;" : Cond) ∈ ga_tbl := ga_m (List.mem_of_getElem? (i := 158) (by decide +kernel)) rfl
theorem kw_159 : (Cond.fieldLink "PatternText" 36 "PatternText" "patternCount" "I" : Cond) ∈ ga_tbl := ga_m (List.mem_of_getElem? (i := 159) (by decide +kernel)) rfl
theorem kw_160 : (Cond.fieldLink "PatternText" 40 "PatternText" "printed" "LPatternText$Pattern;" : Cond) ∈ ga_tbl := ga_m (List.mem_of_getElem? (i := 160) (by decide +kernel)) rfl
theorem kw_161 : (Cond.laysFinal "PatternText" "PatternText" "reader" "LPatternText$PatternReader;" : Cond) ∈ ga_tbl := ga_m (List.mem_of_getElem? (i := 161) (by decide +kernel)) rfl
theorem kw_162 : (Cond.soleField "PatternText" "reader" : Cond) ∈ ga_tbl := ga_m (List.mem_of_getElem? (i := 162) (by decide +kernel)) rfl
theorem kw_163 : (Cond.laysFinal "PatternText" "PatternText" "patterns" "[LPatternText$Pattern;" : Cond) ∈ ga_tbl := ga_m (List.mem_of_getElem? (i := 163) (by decide +kernel)) rfl
theorem kw_164 : (Cond.soleField "PatternText" "patterns" : Cond) ∈ ga_tbl := ga_m (List.mem_of_getElem? (i := 164) (by decide +kernel)) rfl
theorem kw_165 : (Cond.laysFinal "PatternText" "PatternText" "holidays" "LPatternText$Holidays;" : Cond) ∈ ga_tbl := ga_m (List.mem_of_getElem? (i := 165) (by decide +kernel)) rfl
theorem kw_166 : (Cond.soleField "PatternText" "holidays" : Cond) ∈ ga_tbl := ga_m (List.mem_of_getElem? (i := 166) (by decide +kernel)) rfl
theorem kw_167 : (Cond.laysFinal "PatternText" "PatternText" "list" "LPatternText$IssueList;" : Cond) ∈ ga_tbl := ga_m (List.mem_of_getElem? (i := 167) (by decide +kernel)) rfl
theorem kw_168 : (Cond.soleField "PatternText" "list" : Cond) ∈ ga_tbl := ga_m (List.mem_of_getElem? (i := 168) (by decide +kernel)) rfl
theorem kw_169 : (Cond.lays "PatternText" "PatternText" "patternCount" "I" : Cond) ∈ ga_tbl := ga_m (List.mem_of_getElem? (i := 169) (by decide +kernel)) rfl
theorem kw_170 : (Cond.soleField "PatternText" "patternCount" : Cond) ∈ ga_tbl := ga_m (List.mem_of_getElem? (i := 170) (by decide +kernel)) rfl
theorem kw_171 : (Cond.lays "PatternText" "PatternText" "printed" "LPatternText$Pattern;" : Cond) ∈ ga_tbl := ga_m (List.mem_of_getElem? (i := 171) (by decide +kernel)) rfl
theorem kw_172 : (Cond.soleField "PatternText" "printed" : Cond) ∈ ga_tbl := ga_m (List.mem_of_getElem? (i := 172) (by decide +kernel)) rfl
theorem kw_173 : (Cond.superclass "PatternText" "java/lang/Object" : Cond) ∈ ga_tbl := ga_m (List.mem_of_getElem? (i := 173) (by decide +kernel)) rfl
theorem kw_174 : (Cond.methodLink "PatternTextLaw" 19 ⟨"PatternText", "sign", "(I)V"⟩ : Cond) ∈ ga_tbl := ga_m (List.mem_of_getElem? (i := 174) (by decide +kernel)) rfl
theorem kw_175 : (Cond.instanceMethod ⟨"PatternText", "sign", "(I)V"⟩ : Cond) ∈ ga_tbl := ga_m (List.mem_of_getElem? (i := 175) (by decide +kernel)) rfl
theorem kw_176 : (Cond.selects "PatternText" ⟨"PatternText", "sign", "(I)V"⟩ ⟨"PatternText", "sign", "(I)V"⟩ : Cond) ∈ ga_tbl := ga_m (List.mem_of_getElem? (i := 176) (by decide +kernel)) rfl
theorem kw_177 : (Cond.code ⟨"PatternText", "sign", "(I)V"⟩ prog_1_method_2_code 2 none : Cond) ∈ ga_tbl := ga_m (List.mem_of_getElem? (i := 177) (by decide +kernel)) rfl
theorem kw_178 : (Cond.methodLink "PatternText" 44 ⟨"PatternText$PatternReader", "collect", "(I)V"⟩ : Cond) ∈ ga_tbl := ga_m (List.mem_of_getElem? (i := 178) (by decide +kernel)) rfl
theorem kw_179 : (Cond.instanceMethod ⟨"PatternText$PatternReader", "collect", "(I)V"⟩ : Cond) ∈ ga_tbl := ga_m (List.mem_of_getElem? (i := 179) (by decide +kernel)) rfl
theorem kw_180 : (Cond.selects "PatternText$PatternReader" ⟨"PatternText$PatternReader", "collect", "(I)V"⟩ ⟨"PatternText$PatternReader", "collect", "(I)V"⟩ : Cond) ∈ ga_tbl := ga_m (List.mem_of_getElem? (i := 180) (by decide +kernel)) rfl
theorem kw_181 : (Cond.code ⟨"PatternText$PatternReader", "collect", "(I)V"⟩ prog_5_method_2_code 2 none : Cond) ∈ ga_tbl := ga_m (List.mem_of_getElem? (i := 181) (by decide +kernel)) rfl
theorem kw_182 : (Cond.methodLink "PatternTextLaw" 24 ⟨"PatternText", "read", "()I"⟩ : Cond) ∈ ga_tbl := ga_m (List.mem_of_getElem? (i := 182) (by decide +kernel)) rfl
theorem kw_183 : (Cond.instanceMethod ⟨"PatternText", "read", "()I"⟩ : Cond) ∈ ga_tbl := ga_m (List.mem_of_getElem? (i := 183) (by decide +kernel)) rfl
theorem kw_184 : (Cond.selects "PatternText" ⟨"PatternText", "read", "()I"⟩ ⟨"PatternText", "read", "()I"⟩ : Cond) ∈ ga_tbl := ga_m (List.mem_of_getElem? (i := 184) (by decide +kernel)) rfl
theorem kw_185 : (Cond.code ⟨"PatternText", "read", "()I"⟩ prog_1_method_3_code 4 (some .int) : Cond) ∈ ga_tbl := ga_m (List.mem_of_getElem? (i := 185) (by decide +kernel)) rfl
theorem kw_186 : (Cond.methodLink "PatternText" 48 ⟨"PatternText$PatternReader", "understand", "()Z"⟩ : Cond) ∈ ga_tbl := ga_m (List.mem_of_getElem? (i := 186) (by decide +kernel)) rfl
theorem kw_187 : (Cond.instanceMethod ⟨"PatternText$PatternReader", "understand", "()Z"⟩ : Cond) ∈ ga_tbl := ga_m (List.mem_of_getElem? (i := 187) (by decide +kernel)) rfl
theorem kw_188 : (Cond.selects "PatternText$PatternReader" ⟨"PatternText$PatternReader", "understand", "()Z"⟩ ⟨"PatternText$PatternReader", "understand", "()Z"⟩ : Cond) ∈ ga_tbl := ga_m (List.mem_of_getElem? (i := 188) (by decide +kernel)) rfl
theorem kw_189 : (Cond.code ⟨"PatternText$PatternReader", "understand", "()Z"⟩ prog_5_method_5_code 1 (some .boolean) : Cond) ∈ ga_tbl := ga_m (List.mem_of_getElem? (i := 189) (by decide +kernel)) rfl
theorem kw_190 : (Cond.methodLink "PatternText$PatternReader" 52 ⟨"PatternText$PatternReader", "takeHowOften", "()Z"⟩ : Cond) ∈ ga_tbl := ga_m (List.mem_of_getElem? (i := 190) (by decide +kernel)) rfl
theorem kl_191 : (Cond.privateMethod ⟨"PatternText$PatternReader", "takeHowOften", "()Z"⟩ : Cond) ∈ lw_tbl := List.mem_of_getElem? (i := 191) (by decide +kernel)
theorem kw_192 : (Cond.instanceMethod ⟨"PatternText$PatternReader", "takeHowOften", "()Z"⟩ : Cond) ∈ ga_tbl := ga_m (List.mem_of_getElem? (i := 192) (by decide +kernel)) rfl
theorem kw_193 : (Cond.code ⟨"PatternText$PatternReader", "takeHowOften", "()Z"⟩ prog_5_method_6_code 1 (some .boolean) : Cond) ∈ ga_tbl := ga_m (List.mem_of_getElem? (i := 193) (by decide +kernel)) rfl
theorem kl_194 : (Cond.stringRef "PatternText$PatternReader" 62 "every" : Cond) ∈ lw_tbl := List.mem_of_getElem? (i := 194) (by decide +kernel)
theorem kw_195 : (Cond.methodLink "PatternText$PatternReader" 64 ⟨"PatternText$PatternReader", "takeWord", "(Ljava/lang/String;)Z"⟩ : Cond) ∈ ga_tbl := ga_m (List.mem_of_getElem? (i := 195) (by decide +kernel)) rfl
theorem kl_196 : (Cond.privateMethod ⟨"PatternText$PatternReader", "takeWord", "(Ljava/lang/String;)Z"⟩ : Cond) ∈ lw_tbl := List.mem_of_getElem? (i := 196) (by decide +kernel)
theorem kw_197 : (Cond.instanceMethod ⟨"PatternText$PatternReader", "takeWord", "(Ljava/lang/String;)Z"⟩ : Cond) ∈ ga_tbl := ga_m (List.mem_of_getElem? (i := 197) (by decide +kernel)) rfl
theorem kw_198 : (Cond.code ⟨"PatternText$PatternReader", "takeWord", "(Ljava/lang/String;)Z"⟩ prog_5_method_12_code 4 (some .boolean) : Cond) ∈ ga_tbl := ga_m (List.mem_of_getElem? (i := 198) (by decide +kernel)) rfl
theorem kw_199 : (Cond.methodLink "PatternText$PatternReader" 97 ⟨"java/lang/String", "length", "()I"⟩ : Cond) ∈ ga_tbl := ga_m (List.mem_of_getElem? (i := 199) (by decide +kernel)) rfl
theorem kw_200 : (Cond.instanceMethod ⟨"java/lang/String", "length", "()I"⟩ : Cond) ∈ ga_tbl := ga_m (List.mem_of_getElem? (i := 200) (by decide +kernel)) rfl
theorem kw_201 : (Cond.selects "java/lang/String" ⟨"java/lang/String", "length", "()I"⟩ ⟨"java/lang/String", "length", "()I"⟩ : Cond) ∈ ga_tbl := ga_m (List.mem_of_getElem? (i := 201) (by decide +kernel)) rfl
theorem kw_202 : (Cond.code ⟨"java/lang/String", "length", "()I"⟩ prog_12_method_54_code 1 (some .int) : Cond) ∈ ga_tbl := ga_m (List.mem_of_getElem? (i := 202) (by decide +kernel)) rfl
theorem kw_203 : (Cond.methodLink "java/lang/String" 335 ⟨"java/lang/String", "coder", "()B"⟩ : Cond) ∈ ga_tbl := ga_m (List.mem_of_getElem? (i := 203) (by decide +kernel)) rfl
theorem kw_204 : (Cond.instanceMethod ⟨"java/lang/String", "coder", "()B"⟩ : Cond) ∈ ga_tbl := ga_m (List.mem_of_getElem? (i := 204) (by decide +kernel)) rfl
theorem kw_205 : (Cond.selects "java/lang/String" ⟨"java/lang/String", "coder", "()B"⟩ ⟨"java/lang/String", "coder", "()B"⟩ : Cond) ∈ ga_tbl := ga_m (List.mem_of_getElem? (i := 205) (by decide +kernel)) rfl
theorem kw_206 : (Cond.code ⟨"java/lang/String", "coder", "()B"⟩ prog_12_method_152_code 1 (some .byte) : Cond) ∈ ga_tbl := ga_m (List.mem_of_getElem? (i := 206) (by decide +kernel)) rfl
theorem kw_207 : (Cond.fieldLink "java/lang/String" 38 "java/lang/String" "COMPACT_STRINGS" "Z" : Cond) ∈ ga_tbl := ga_m (List.mem_of_getElem? (i := 207) (by decide +kernel)) rfl
theorem kl_208 : (Cond.laysStatic "java/lang/String" "COMPACT_STRINGS" "Z" : Cond) ∈ lw_tbl := List.mem_of_getElem? (i := 208) (by decide +kernel)
theorem kw_209 : (Cond.methodLink "PatternText$PatternReader" 101 ⟨"PatternText$PatternReader", "signAt", "(I)I"⟩ : Cond) ∈ ga_tbl := ga_m (List.mem_of_getElem? (i := 209) (by decide +kernel)) rfl
theorem kl_210 : (Cond.privateMethod ⟨"PatternText$PatternReader", "signAt", "(I)I"⟩ : Cond) ∈ lw_tbl := List.mem_of_getElem? (i := 210) (by decide +kernel)
theorem kw_211 : (Cond.instanceMethod ⟨"PatternText$PatternReader", "signAt", "(I)I"⟩ : Cond) ∈ ga_tbl := ga_m (List.mem_of_getElem? (i := 211) (by decide +kernel)) rfl
theorem kw_212 : (Cond.code ⟨"PatternText$PatternReader", "signAt", "(I)I"⟩ prog_5_method_15_code 2 (some .int) : Cond) ∈ ga_tbl := ga_m (List.mem_of_getElem? (i := 212) (by decide +kernel)) rfl
theorem kw_213 : (Cond.methodLink "PatternText$PatternReader" 105 ⟨"PatternText$PatternReader", "isLetter", "(I)Z"⟩ : Cond) ∈ ga_tbl := ga_m (List.mem_of_getElem? (i := 213) (by decide +kernel)) rfl
theorem kw_214 : (Cond.static ⟨"PatternText$PatternReader", "isLetter", "(I)Z"⟩ : Cond) ∈ ga_tbl := ga_m (List.mem_of_getElem? (i := 214) (by decide +kernel)) rfl
theorem kw_215 : (Cond.code ⟨"PatternText$PatternReader", "isLetter", "(I)Z"⟩ prog_5_method_17_code 1 (some .boolean) : Cond) ∈ ga_tbl := ga_m (List.mem_of_getElem? (i := 215) (by decide +kernel)) rfl
theorem kw_216 : (Cond.methodLink "PatternText$PatternReader" 109 ⟨"java/lang/String", "charAt", "(I)C"⟩ : Cond) ∈ ga_tbl := ga_m (List.mem_of_getElem? (i := 216) (by decide +kernel)) rfl
theorem kw_217 : (Cond.instanceMethod ⟨"java/lang/String", "charAt", "(I)C"⟩ : Cond) ∈ ga_tbl := ga_m (List.mem_of_getElem? (i := 217) (by decide +kernel)) rfl
theorem kw_218 : (Cond.selects "java/lang/String" ⟨"java/lang/String", "charAt", "(I)C"⟩ ⟨"java/lang/String", "charAt", "(I)C"⟩ : Cond) ∈ ga_tbl := ga_m (List.mem_of_getElem? (i := 218) (by decide +kernel)) rfl
theorem kw_219 : (Cond.code ⟨"java/lang/String", "charAt", "(I)C"⟩ prog_12_method_56_code 2 (some .char) : Cond) ∈ ga_tbl := ga_m (List.mem_of_getElem? (i := 219) (by decide +kernel)) rfl
theorem kw_220 : (Cond.methodLink "java/lang/String" 492 ⟨"java/lang/String", "isLatin1", "()Z"⟩ : Cond) ∈ ga_tbl := ga_m (List.mem_of_getElem? (i := 220) (by decide +kernel)) rfl
theorem kw_221 : (Cond.instanceMethod ⟨"java/lang/String", "isLatin1", "()Z"⟩ : Cond) ∈ ga_tbl := ga_m (List.mem_of_getElem? (i := 221) (by decide +kernel)) rfl
theorem kw_222 : (Cond.selects "java/lang/String" ⟨"java/lang/String", "isLatin1", "()Z"⟩ ⟨"java/lang/String", "isLatin1", "()Z"⟩ : Cond) ∈ ga_tbl := ga_m (List.mem_of_getElem? (i := 222) (by decide +kernel)) rfl
theorem kw_223 : (Cond.code ⟨"java/lang/String", "isLatin1", "()Z"⟩ prog_12_method_154_code 1 (some .boolean) : Cond) ∈ ga_tbl := ga_m (List.mem_of_getElem? (i := 223) (by decide +kernel)) rfl
theorem kw_224 : (Cond.methodLink "java/lang/String" 495 ⟨"java/lang/StringLatin1", "charAt", "([BI)C"⟩ : Cond) ∈ ga_tbl := ga_m (List.mem_of_getElem? (i := 224) (by decide +kernel)) rfl
theorem kw_225 : (Cond.static ⟨"java/lang/StringLatin1", "charAt", "([BI)C"⟩ : Cond) ∈ ga_tbl := ga_m (List.mem_of_getElem? (i := 225) (by decide +kernel)) rfl
theorem kw_226 : (Cond.code ⟨"java/lang/StringLatin1", "charAt", "([BI)C"⟩ prog_13_method_2_code 2 (some .char) : Cond) ∈ ga_tbl := ga_m (List.mem_of_getElem? (i := 226) (by decide +kernel)) rfl
theorem kw_227 : (Cond.methodLink "java/lang/StringLatin1" 9 ⟨"java/lang/String", "checkIndex", "(II)V"⟩ : Cond) ∈ ga_tbl := ga_m (List.mem_of_getElem? (i := 227) (by decide +kernel)) rfl
theorem kw_228 : (Cond.static ⟨"java/lang/String", "checkIndex", "(II)V"⟩ : Cond) ∈ ga_tbl := ga_m (List.mem_of_getElem? (i := 228) (by decide +kernel)) rfl
theorem kw_229 : (Cond.code ⟨"java/lang/String", "checkIndex", "(II)V"⟩ prog_12_method_155_code 2 none : Cond) ∈ ga_tbl := ga_m (List.mem_of_getElem? (i := 229) (by decide +kernel)) rfl
theorem kw_230 : (Cond.fieldLink "java/lang/String" 1053 "jdk/internal/util/Preconditions" "SIOOBE_FORMATTER" "Ljava/util/function/BiFunction;" : Cond) ∈ ga_tbl := ga_m (List.mem_of_getElem? (i := 230) (by decide +kernel)) rfl
theorem kl_231 : (Cond.laysStatic "jdk/internal/util/Preconditions" "SIOOBE_FORMATTER" "Ljava/util/function/BiFunction;" : Cond) ∈ lw_tbl := List.mem_of_getElem? (i := 231) (by decide +kernel)
theorem kw_232 : (Cond.methodLink "java/lang/String" 1059 ⟨"jdk/internal/util/Preconditions", "checkIndex", "(IILjava/util/function/BiFunction;)I"⟩ : Cond) ∈ ga_tbl := ga_m (List.mem_of_getElem? (i := 232) (by decide +kernel)) rfl
theorem kw_233 : (Cond.static ⟨"jdk/internal/util/Preconditions", "checkIndex", "(IILjava/util/function/BiFunction;)I"⟩ : Cond) ∈ ga_tbl := ga_m (List.mem_of_getElem? (i := 233) (by decide +kernel)) rfl
theorem kw_234 : (Cond.code ⟨"jdk/internal/util/Preconditions", "checkIndex", "(IILjava/util/function/BiFunction;)I"⟩ prog_17_method_11_code 3 (some .int) : Cond) ∈ ga_tbl := ga_m (List.mem_of_getElem? (i := 234) (by decide +kernel)) rfl
theorem kw_235 : (Cond.methodLink "java/lang/String" 498 ⟨"java/lang/StringUTF16", "charAt", "([BI)C"⟩ : Cond) ∈ ga_tbl := ga_m (List.mem_of_getElem? (i := 235) (by decide +kernel)) rfl
theorem kw_236 : (Cond.static ⟨"java/lang/StringUTF16", "charAt", "([BI)C"⟩ : Cond) ∈ ga_tbl := ga_m (List.mem_of_getElem? (i := 236) (by decide +kernel)) rfl
theorem kw_237 : (Cond.code ⟨"java/lang/StringUTF16", "charAt", "([BI)C"⟩ prog_14_method_83_code 2 (some .char) : Cond) ∈ ga_tbl := ga_m (List.mem_of_getElem? (i := 237) (by decide +kernel)) rfl
theorem kw_238 : (Cond.methodLink "java/lang/StringUTF16" 67 ⟨"java/lang/StringUTF16", "checkIndex", "(I[B)V"⟩ : Cond) ∈ ga_tbl := ga_m (List.mem_of_getElem? (i := 238) (by decide +kernel)) rfl
theorem kw_239 : (Cond.static ⟨"java/lang/StringUTF16", "checkIndex", "(I[B)V"⟩ : Cond) ∈ ga_tbl := ga_m (List.mem_of_getElem? (i := 239) (by decide +kernel)) rfl
theorem kw_240 : (Cond.code ⟨"java/lang/StringUTF16", "checkIndex", "(I[B)V"⟩ prog_14_method_91_code 2 none : Cond) ∈ ga_tbl := ga_m (List.mem_of_getElem? (i := 240) (by decide +kernel)) rfl
theorem kw_241 : (Cond.methodLink "java/lang/StringUTF16" 48 ⟨"java/lang/StringUTF16", "length", "([B)I"⟩ : Cond) ∈ ga_tbl := ga_m (List.mem_of_getElem? (i := 241) (by decide +kernel)) rfl
theorem kw_242 : (Cond.static ⟨"java/lang/StringUTF16", "length", "([B)I"⟩ : Cond) ∈ ga_tbl := ga_m (List.mem_of_getElem? (i := 242) (by decide +kernel)) rfl
theorem kw_243 : (Cond.code ⟨"java/lang/StringUTF16", "length", "([B)I"⟩ prog_14_method_6_code 1 (some .int) : Cond) ∈ ga_tbl := ga_m (List.mem_of_getElem? (i := 243) (by decide +kernel)) rfl
theorem kw_244 : (Cond.methodLink "java/lang/StringUTF16" 414 ⟨"java/lang/String", "checkIndex", "(II)V"⟩ : Cond) ∈ ga_tbl := ga_m (List.mem_of_getElem? (i := 244) (by decide +kernel)) rfl
theorem kw_245 : (Cond.methodLink "java/lang/StringUTF16" 71 ⟨"java/lang/StringUTF16", "getChar", "([BI)C"⟩ : Cond) ∈ ga_tbl := ga_m (List.mem_of_getElem? (i := 245) (by decide +kernel)) rfl
theorem kw_246 : (Cond.static ⟨"java/lang/StringUTF16", "getChar", "([BI)C"⟩ : Cond) ∈ ga_tbl := ga_m (List.mem_of_getElem? (i := 246) (by decide +kernel)) rfl
theorem kw_247 : (Cond.code ⟨"java/lang/StringUTF16", "getChar", "([BI)C"⟩ prog_14_method_5_code 2 (some .char) : Cond) ∈ ga_tbl := ga_m (List.mem_of_getElem? (i := 247) (by decide +kernel)) rfl
theorem kw_248 : (Cond.fieldLink "java/lang/StringUTF16" 44 "java/lang/StringUTF16" "$assertionsDisabled" "Z" : Cond) ∈ ga_tbl := ga_m (List.mem_of_getElem? (i := 248) (by decide +kernel)) rfl
theorem kl_249 : (Cond.laysStatic "java/lang/StringUTF16" "$assertionsDisabled" "Z" : Cond) ∈ lw_tbl := List.mem_of_getElem? (i := 249) (by decide +kernel)
theorem kw_250 : (Cond.fieldLink "java/lang/StringUTF16" 59 "java/lang/StringUTF16" "HI_BYTE_SHIFT" "I" : Cond) ∈ ga_tbl := ga_m (List.mem_of_getElem? (i := 250) (by decide +kernel)) rfl
theorem kl_251 : (Cond.laysStatic "java/lang/StringUTF16" "HI_BYTE_SHIFT" "I" : Cond) ∈ lw_tbl := List.mem_of_getElem? (i := 251) (by decide +kernel)
theorem kw_252 : (Cond.fieldLink "java/lang/StringUTF16" 63 "java/lang/StringUTF16" "LO_BYTE_SHIFT" "I" : Cond) ∈ ga_tbl := ga_m (List.mem_of_getElem? (i := 252) (by decide +kernel)) rfl
theorem kl_253 : (Cond.laysStatic "java/lang/StringUTF16" "LO_BYTE_SHIFT" "I" : Cond) ∈ lw_tbl := List.mem_of_getElem? (i := 253) (by decide +kernel)
theorem kw_254 : (Cond.methodLink "PatternText$PatternReader" 68 ⟨"PatternText$PatternReader", "takeSpace", "()Z"⟩ : Cond) ∈ ga_tbl := ga_m (List.mem_of_getElem? (i := 254) (by decide +kernel)) rfl
theorem kl_255 : (Cond.privateMethod ⟨"PatternText$PatternReader", "takeSpace", "()Z"⟩ : Cond) ∈ lw_tbl := List.mem_of_getElem? (i := 255) (by decide +kernel)
theorem kw_256 : (Cond.instanceMethod ⟨"PatternText$PatternReader", "takeSpace", "()Z"⟩ : Cond) ∈ ga_tbl := ga_m (List.mem_of_getElem? (i := 256) (by decide +kernel)) rfl
theorem kw_257 : (Cond.code ⟨"PatternText$PatternReader", "takeSpace", "()Z"⟩ prog_5_method_11_code 1 (some .boolean) : Cond) ∈ ga_tbl := ga_m (List.mem_of_getElem? (i := 257) (by decide +kernel)) rfl
theorem kw_258 : (Cond.methodLink "PatternText$PatternReader" 93 ⟨"PatternText$PatternReader", "signHere", "()I"⟩ : Cond) ∈ ga_tbl := ga_m (List.mem_of_getElem? (i := 258) (by decide +kernel)) rfl
theorem kl_259 : (Cond.privateMethod ⟨"PatternText$PatternReader", "signHere", "()I"⟩ : Cond) ∈ lw_tbl := List.mem_of_getElem? (i := 259) (by decide +kernel)
theorem kw_260 : (Cond.instanceMethod ⟨"PatternText$PatternReader", "signHere", "()I"⟩ : Cond) ∈ ga_tbl := ga_m (List.mem_of_getElem? (i := 260) (by decide +kernel)) rfl
theorem kw_261 : (Cond.code ⟨"PatternText$PatternReader", "signHere", "()I"⟩ prog_5_method_14_code 1 (some .int) : Cond) ∈ ga_tbl := ga_m (List.mem_of_getElem? (i := 261) (by decide +kernel)) rfl
theorem kw_262 : (Cond.methodLink "PatternText$PatternReader" 71 ⟨"PatternText$PatternReader", "takeNumber", "(II)Z"⟩ : Cond) ∈ ga_tbl := ga_m (List.mem_of_getElem? (i := 262) (by decide +kernel)) rfl
theorem kl_263 : (Cond.privateMethod ⟨"PatternText$PatternReader", "takeNumber", "(II)Z"⟩ : Cond) ∈ lw_tbl := List.mem_of_getElem? (i := 263) (by decide +kernel)
theorem kw_264 : (Cond.instanceMethod ⟨"PatternText$PatternReader", "takeNumber", "(II)Z"⟩ : Cond) ∈ ga_tbl := ga_m (List.mem_of_getElem? (i := 264) (by decide +kernel)) rfl
theorem kw_265 : (Cond.code ⟨"PatternText$PatternReader", "takeNumber", "(II)Z"⟩ prog_5_method_13_code 7 (some .boolean) : Cond) ∈ ga_tbl := ga_m (List.mem_of_getElem? (i := 265) (by decide +kernel)) rfl
theorem kw_266 : (Cond.methodLink "PatternText$PatternReader" 113 ⟨"PatternText$PatternReader", "isDigit", "(I)Z"⟩ : Cond) ∈ ga_tbl := ga_m (List.mem_of_getElem? (i := 266) (by decide +kernel)) rfl
theorem kw_267 : (Cond.static ⟨"PatternText$PatternReader", "isDigit", "(I)Z"⟩ : Cond) ∈ ga_tbl := ga_m (List.mem_of_getElem? (i := 267) (by decide +kernel)) rfl
theorem kw_268 : (Cond.code ⟨"PatternText$PatternReader", "isDigit", "(I)Z"⟩ prog_5_method_16_code 1 (some .boolean) : Cond) ∈ ga_tbl := ga_m (List.mem_of_getElem? (i := 268) (by decide +kernel)) rfl
theorem kw_269 : (Cond.methodLink "PatternText$PatternReader" 116 ⟨"java/lang/Math", "min", "(II)I"⟩ : Cond) ∈ ga_tbl := ga_m (List.mem_of_getElem? (i := 269) (by decide +kernel)) rfl
theorem kw_270 : (Cond.static ⟨"java/lang/Math", "min", "(II)I"⟩ : Cond) ∈ ga_tbl := ga_m (List.mem_of_getElem? (i := 270) (by decide +kernel)) rfl
theorem kw_271 : (Cond.code ⟨"java/lang/Math", "min", "(II)I"⟩ prog_10_method_69_code 2 (some .int) : Cond) ∈ ga_tbl := ga_m (List.mem_of_getElem? (i := 271) (by decide +kernel)) rfl
theorem kl_272 : (Cond.stringRef "PatternText$PatternReader" 75 "days" : Cond) ∈ lw_tbl := List.mem_of_getElem? (i := 272) (by decide +kernel)
theorem kl_273 : (Cond.stringRef "PatternText$PatternReader" 77 "weeks" : Cond) ∈ lw_tbl := List.mem_of_getElem? (i := 273) (by decide +kernel)
theorem kl_274 : (Cond.stringRef "PatternText$PatternReader" 79 "months" : Cond) ∈ lw_tbl := List.mem_of_getElem? (i := 274) (by decide +kernel)
theorem kw_275 : (Cond.methodLink "PatternText$PatternReader" 56 ⟨"PatternText$PatternReader", "takeClauses", "()Z"⟩ : Cond) ∈ ga_tbl := ga_m (List.mem_of_getElem? (i := 275) (by decide +kernel)) rfl
theorem kl_276 : (Cond.privateMethod ⟨"PatternText$PatternReader", "takeClauses", "()Z"⟩ : Cond) ∈ lw_tbl := List.mem_of_getElem? (i := 276) (by decide +kernel)
theorem kw_277 : (Cond.instanceMethod ⟨"PatternText$PatternReader", "takeClauses", "()Z"⟩ : Cond) ∈ ga_tbl := ga_m (List.mem_of_getElem? (i := 277) (by decide +kernel)) rfl
theorem kw_278 : (Cond.code ⟨"PatternText$PatternReader", "takeClauses", "()Z"⟩ prog_5_method_7_code 1 (some .boolean) : Cond) ∈ ga_tbl := ga_m (List.mem_of_getElem? (i := 278) (by decide +kernel)) rfl
theorem kl_279 : (Cond.stringRef "PatternText$PatternReader" 81 "skip" : Cond) ∈ lw_tbl := List.mem_of_getElem? (i := 279) (by decide +kernel)
theorem kw_280 : (Cond.methodLink "PatternText$PatternReader" 83 ⟨"PatternText$PatternReader", "takeNextWord", "(Ljava/lang/String;)Z"⟩ : Cond) ∈ ga_tbl := ga_m (List.mem_of_getElem? (i := 280) (by decide +kernel)) rfl
theorem kl_281 : (Cond.privateMethod ⟨"PatternText$PatternReader", "takeNextWord", "(Ljava/lang/String;)Z"⟩ : Cond) ∈ lw_tbl := List.mem_of_getElem? (i := 281) (by decide +kernel)
theorem kw_282 : (Cond.instanceMethod ⟨"PatternText$PatternReader", "takeNextWord", "(Ljava/lang/String;)Z"⟩ : Cond) ∈ ga_tbl := ga_m (List.mem_of_getElem? (i := 282) (by decide +kernel)) rfl
theorem kw_283 : (Cond.code ⟨"PatternText$PatternReader", "takeNextWord", "(Ljava/lang/String;)Z"⟩ prog_5_method_10_code 3 (some .boolean) : Cond) ∈ ga_tbl := ga_m (List.mem_of_getElem? (i := 283) (by decide +kernel)) rfl
theorem kw_284 : (Cond.methodLink "PatternText$PatternReader" 86 ⟨"PatternText$PatternReader", "takeMonths", "()Z"⟩ : Cond) ∈ ga_tbl := ga_m (List.mem_of_getElem? (i := 284) (by decide +kernel)) rfl
theorem kl_285 : (Cond.privateMethod ⟨"PatternText$PatternReader", "takeMonths", "()Z"⟩ : Cond) ∈ lw_tbl := List.mem_of_getElem? (i := 285) (by decide +kernel)
theorem kw_286 : (Cond.instanceMethod ⟨"PatternText$PatternReader", "takeMonths", "()Z"⟩ : Cond) ∈ ga_tbl := ga_m (List.mem_of_getElem? (i := 286) (by decide +kernel)) rfl
theorem kw_287 : (Cond.code ⟨"PatternText$PatternReader", "takeMonths", "()Z"⟩ prog_5_method_9_code 3 (some .boolean) : Cond) ∈ ga_tbl := ga_m (List.mem_of_getElem? (i := 287) (by decide +kernel)) rfl
theorem kl_288 : (Cond.stringRef "PatternText$PatternReader" 89 "joined" : Cond) ∈ lw_tbl := List.mem_of_getElem? (i := 288) (by decide +kernel)
theorem kl_289 : (Cond.stringRef "PatternText$PatternReader" 90 "volume" : Cond) ∈ lw_tbl := List.mem_of_getElem? (i := 289) (by decide +kernel)
theorem kl_290 : (Cond.stringRef "PatternText$PatternReader" 91 "restart" : Cond) ∈ lw_tbl := List.mem_of_getElem? (i := 290) (by decide +kernel)
theorem kw_291 : (Cond.methodLink "PatternText$PatternReader" 59 ⟨"PatternText$PatternReader", "takeEnd", "()Z"⟩ : Cond) ∈ ga_tbl := ga_m (List.mem_of_getElem? (i := 291) (by decide +kernel)) rfl
theorem kl_292 : (Cond.privateMethod ⟨"PatternText$PatternReader", "takeEnd", "()Z"⟩ : Cond) ∈ lw_tbl := List.mem_of_getElem? (i := 292) (by decide +kernel)
theorem kw_293 : (Cond.instanceMethod ⟨"PatternText$PatternReader", "takeEnd", "()Z"⟩ : Cond) ∈ ga_tbl := ga_m (List.mem_of_getElem? (i := 293) (by decide +kernel)) rfl
theorem kw_294 : (Cond.code ⟨"PatternText$PatternReader", "takeEnd", "()Z"⟩ prog_5_method_8_code 1 (some .boolean) : Cond) ∈ ga_tbl := ga_m (List.mem_of_getElem? (i := 294) (by decide +kernel)) rfl
theorem kw_295 : (Cond.methodLink "PatternText" 55 ⟨"PatternText", "keepPattern", "()I"⟩ : Cond) ∈ ga_tbl := ga_m (List.mem_of_getElem? (i := 295) (by decide +kernel)) rfl
theorem kl_296 : (Cond.privateMethod ⟨"PatternText", "keepPattern", "()I"⟩ : Cond) ∈ lw_tbl := List.mem_of_getElem? (i := 296) (by decide +kernel)
theorem kw_297 : (Cond.instanceMethod ⟨"PatternText", "keepPattern", "()I"⟩ : Cond) ∈ ga_tbl := ga_m (List.mem_of_getElem? (i := 297) (by decide +kernel)) rfl
theorem kw_298 : (Cond.code ⟨"PatternText", "keepPattern", "()I"⟩ prog_1_method_18_code 2 (some .int) : Cond) ∈ ga_tbl := ga_m (List.mem_of_getElem? (i := 298) (by decide +kernel)) rfl
theorem kw_299 : (Cond.methodLink "PatternText" 148 ⟨"PatternText$PatternReader", "makePattern", "(I)LPatternText$Pattern;"⟩ : Cond) ∈ ga_tbl := ga_m (List.mem_of_getElem? (i := 299) (by decide +kernel)) rfl
theorem kw_300 : (Cond.instanceMethod ⟨"PatternText$PatternReader", "makePattern", "(I)LPatternText$Pattern;"⟩ : Cond) ∈ ga_tbl := ga_m (List.mem_of_getElem? (i := 300) (by decide +kernel)) rfl
theorem kw_301 : (Cond.selects "PatternText$PatternReader" ⟨"PatternText$PatternReader", "makePattern", "(I)LPatternText$Pattern;"⟩ ⟨"PatternText$PatternReader", "makePattern", "(I)LPatternText$Pattern;"⟩ : Cond) ∈ ga_tbl := ga_m (List.mem_of_getElem? (i := 301) (by decide +kernel)) rfl
theorem kw_302 : (Cond.code ⟨"PatternText$PatternReader", "makePattern", "(I)LPatternText$Pattern;"⟩ prog_5_method_4_code 3 (some (.object "PatternText$Pattern")) : Cond) ∈ ga_tbl := ga_m (List.mem_of_getElem? (i := 302) (by decide +kernel)) rfl
theorem kw_303 : (Cond.methodLink "PatternText$PatternReader" 41 ⟨"java/lang/System", "arraycopy", "(Ljava/lang/Object;ILjava/lang/Object;II)V"⟩ : Cond) ∈ ga_tbl := ga_m (List.mem_of_getElem? (i := 303) (by decide +kernel)) rfl
theorem kw_304 : (Cond.static ⟨"java/lang/System", "arraycopy", "(Ljava/lang/Object;ILjava/lang/Object;II)V"⟩ : Cond) ∈ ga_tbl := ga_m (List.mem_of_getElem? (i := 304) (by decide +kernel)) rfl
theorem kw_305 : (Cond.native ⟨"java/lang/System", "arraycopy", "(Ljava/lang/Object;ILjava/lang/Object;II)V"⟩ : Cond) ∈ ga_tbl := ga_m (List.mem_of_getElem? (i := 305) (by decide +kernel)) rfl
theorem kw_306 : (Cond.classLink "PatternText$PatternReader" 47 "PatternText$Pattern" : Cond) ∈ ga_tbl := ga_m (List.mem_of_getElem? (i := 306) (by decide +kernel)) rfl
theorem kw_307 : (Cond.instantiable "PatternText$Pattern" 7 : Cond) ∈ ga_tbl := ga_m (List.mem_of_getElem? (i := 307) (by decide +kernel)) rfl
theorem kw_308 : (Cond.methodLink "PatternText$PatternReader" 49 ⟨"PatternText$Pattern", "<init>", "(I[IIIIIZ)V"⟩ : Cond) ∈ ga_tbl := ga_m (List.mem_of_getElem? (i := 308) (by decide +kernel)) rfl
theorem kw_309 : (Cond.instanceMethod ⟨"PatternText$Pattern", "<init>", "(I[IIIIIZ)V"⟩ : Cond) ∈ ga_tbl := ga_m (List.mem_of_getElem? (i := 309) (by decide +kernel)) rfl
theorem kw_310 : (Cond.code ⟨"PatternText$Pattern", "<init>", "(I[IIIIIZ)V"⟩ prog_4_method_1_code 8 none : Cond) ∈ ga_tbl := ga_m (List.mem_of_getElem? (i := 310) (by decide +kernel)) rfl
theorem kw_311 : (Cond.methodLink "PatternText$Pattern" 3 ⟨"java/lang/Object", "<init>", "()V"⟩ : Cond) ∈ ga_tbl := ga_m (List.mem_of_getElem? (i := 311) (by decide +kernel)) rfl
theorem kw_312 : (Cond.fieldLink "PatternText$Pattern" 9 "PatternText$Pattern" "place" "I" : Cond) ∈ ga_tbl := ga_m (List.mem_of_getElem? (i := 312) (by decide +kernel)) rfl
theorem kl_313 : (Cond.fieldLinkNest "PatternText$IssueList" 84 "PatternText$Pattern" "place" "I" "PatternText" : Cond) ∈ lw_tbl := List.mem_of_getElem? (i := 313) (by decide +kernel)
theorem kw_314 : (Cond.fieldLink "PatternText$Pattern" 15 "PatternText$Pattern" "signs" "[I" : Cond) ∈ ga_tbl := ga_m (List.mem_of_getElem? (i := 314) (by decide +kernel)) rfl
theorem kl_315 : (Cond.fieldLinkNest "PatternText" 134 "PatternText$Pattern" "signs" "[I" "PatternText" : Cond) ∈ lw_tbl := List.mem_of_getElem? (i := 315) (by decide +kernel)
theorem kw_316 : (Cond.fieldLink "PatternText$Pattern" 19 "PatternText$Pattern" "stepDays" "I" : Cond) ∈ ga_tbl := ga_m (List.mem_of_getElem? (i := 316) (by decide +kernel)) rfl
theorem kl_317 : (Cond.fieldLinkNest "PatternText$IssueList" 75 "PatternText$Pattern" "stepDays" "I" "PatternText" : Cond) ∈ lw_tbl := List.mem_of_getElem? (i := 317) (by decide +kernel)
theorem kw_318 : (Cond.fieldLink "PatternText$Pattern" 22 "PatternText$Pattern" "monthsLeftOut" "I" : Cond) ∈ ga_tbl := ga_m (List.mem_of_getElem? (i := 318) (by decide +kernel)) rfl
theorem kw_319 : (Cond.fieldLink "PatternText$Pattern" 25 "PatternText$Pattern" "joined" "I" : Cond) ∈ ga_tbl := ga_m (List.mem_of_getElem? (i := 319) (by decide +kernel)) rfl
theorem kw_320 : (Cond.fieldLink "PatternText$Pattern" 28 "PatternText$Pattern" "volume" "I" : Cond) ∈ ga_tbl := ga_m (List.mem_of_getElem? (i := 320) (by decide +kernel)) rfl
theorem kw_321 : (Cond.fieldLink "PatternText$Pattern" 31 "PatternText$Pattern" "restarts" "Z" : Cond) ∈ ga_tbl := ga_m (List.mem_of_getElem? (i := 321) (by decide +kernel)) rfl
theorem kw_322 : (Cond.laysFinal "PatternText$Pattern" "PatternText$Pattern" "place" "I" : Cond) ∈ ga_tbl := ga_m (List.mem_of_getElem? (i := 322) (by decide +kernel)) rfl
theorem kw_323 : (Cond.soleField "PatternText$Pattern" "place" : Cond) ∈ ga_tbl := ga_m (List.mem_of_getElem? (i := 323) (by decide +kernel)) rfl
theorem kw_324 : (Cond.laysFinal "PatternText$Pattern" "PatternText$Pattern" "signs" "[I" : Cond) ∈ ga_tbl := ga_m (List.mem_of_getElem? (i := 324) (by decide +kernel)) rfl
theorem kw_325 : (Cond.soleField "PatternText$Pattern" "signs" : Cond) ∈ ga_tbl := ga_m (List.mem_of_getElem? (i := 325) (by decide +kernel)) rfl
theorem kw_326 : (Cond.laysFinal "PatternText$Pattern" "PatternText$Pattern" "stepDays" "I" : Cond) ∈ ga_tbl := ga_m (List.mem_of_getElem? (i := 326) (by decide +kernel)) rfl
theorem kw_327 : (Cond.soleField "PatternText$Pattern" "stepDays" : Cond) ∈ ga_tbl := ga_m (List.mem_of_getElem? (i := 327) (by decide +kernel)) rfl
theorem kw_328 : (Cond.laysFinal "PatternText$Pattern" "PatternText$Pattern" "monthsLeftOut" "I" : Cond) ∈ ga_tbl := ga_m (List.mem_of_getElem? (i := 328) (by decide +kernel)) rfl
theorem kw_329 : (Cond.soleField "PatternText$Pattern" "monthsLeftOut" : Cond) ∈ ga_tbl := ga_m (List.mem_of_getElem? (i := 329) (by decide +kernel)) rfl
theorem kw_330 : (Cond.laysFinal "PatternText$Pattern" "PatternText$Pattern" "joined" "I" : Cond) ∈ ga_tbl := ga_m (List.mem_of_getElem? (i := 330) (by decide +kernel)) rfl
theorem kw_331 : (Cond.soleField "PatternText$Pattern" "joined" : Cond) ∈ ga_tbl := ga_m (List.mem_of_getElem? (i := 331) (by decide +kernel)) rfl
theorem kw_332 : (Cond.laysFinal "PatternText$Pattern" "PatternText$Pattern" "volume" "I" : Cond) ∈ ga_tbl := ga_m (List.mem_of_getElem? (i := 332) (by decide +kernel)) rfl
theorem kw_333 : (Cond.soleField "PatternText$Pattern" "volume" : Cond) ∈ ga_tbl := ga_m (List.mem_of_getElem? (i := 333) (by decide +kernel)) rfl
theorem kw_334 : (Cond.laysFinal "PatternText$Pattern" "PatternText$Pattern" "restarts" "Z" : Cond) ∈ ga_tbl := ga_m (List.mem_of_getElem? (i := 334) (by decide +kernel)) rfl
theorem kw_335 : (Cond.soleField "PatternText$Pattern" "restarts" : Cond) ∈ ga_tbl := ga_m (List.mem_of_getElem? (i := 335) (by decide +kernel)) rfl
theorem kw_336 : (Cond.superclass "PatternText$Pattern" "java/lang/Object" : Cond) ∈ ga_tbl := ga_m (List.mem_of_getElem? (i := 336) (by decide +kernel)) rfl
theorem kw_337 : (Cond.arrayClass .byte : Cond) ∈ ga_tbl := ga_m (List.mem_of_getElem? (i := 337) (by decide +kernel)) rfl
theorem kw_338 : (Cond.methodLink "PatternText" 59 ⟨"PatternText$PatternReader", "forget", "()V"⟩ : Cond) ∈ ga_tbl := ga_m (List.mem_of_getElem? (i := 338) (by decide +kernel)) rfl
theorem kw_339 : (Cond.instanceMethod ⟨"PatternText$PatternReader", "forget", "()V"⟩ : Cond) ∈ ga_tbl := ga_m (List.mem_of_getElem? (i := 339) (by decide +kernel)) rfl
theorem kw_340 : (Cond.selects "PatternText$PatternReader" ⟨"PatternText$PatternReader", "forget", "()V"⟩ ⟨"PatternText$PatternReader", "forget", "()V"⟩ : Cond) ∈ ga_tbl := ga_m (List.mem_of_getElem? (i := 340) (by decide +kernel)) rfl
theorem kw_341 : (Cond.code ⟨"PatternText$PatternReader", "forget", "()V"⟩ prog_5_method_3_code 1 none : Cond) ∈ ga_tbl := ga_m (List.mem_of_getElem? (i := 341) (by decide +kernel)) rfl
theorem kw_342 : (Cond.methodLink "PatternTextLaw" 29 ⟨"PatternText", "foretell", "(III)I"⟩ : Cond) ∈ ga_tbl := ga_m (List.mem_of_getElem? (i := 342) (by decide +kernel)) rfl
theorem kw_343 : (Cond.instanceMethod ⟨"PatternText", "foretell", "(III)I"⟩ : Cond) ∈ ga_tbl := ga_m (List.mem_of_getElem? (i := 343) (by decide +kernel)) rfl
theorem kw_344 : (Cond.selects "PatternText" ⟨"PatternText", "foretell", "(III)I"⟩ ⟨"PatternText", "foretell", "(III)I"⟩ : Cond) ∈ ga_tbl := ga_m (List.mem_of_getElem? (i := 344) (by decide +kernel)) rfl
theorem kw_345 : (Cond.code ⟨"PatternText", "foretell", "(III)I"⟩ prog_1_method_4_code 5 (some .int) : Cond) ∈ ga_tbl := ga_m (List.mem_of_getElem? (i := 345) (by decide +kernel)) rfl
theorem kw_346 : (Cond.methodLink "PatternText" 62 ⟨"PatternText", "patternOf", "(I)LPatternText$Pattern;"⟩ : Cond) ∈ ga_tbl := ga_m (List.mem_of_getElem? (i := 346) (by decide +kernel)) rfl
theorem kl_347 : (Cond.privateMethod ⟨"PatternText", "patternOf", "(I)LPatternText$Pattern;"⟩ : Cond) ∈ lw_tbl := List.mem_of_getElem? (i := 347) (by decide +kernel)
theorem kw_348 : (Cond.instanceMethod ⟨"PatternText", "patternOf", "(I)LPatternText$Pattern;"⟩ : Cond) ∈ ga_tbl := ga_m (List.mem_of_getElem? (i := 348) (by decide +kernel)) rfl
theorem kw_349 : (Cond.code ⟨"PatternText", "patternOf", "(I)LPatternText$Pattern;"⟩ prog_1_method_17_code 2 (some (.object "PatternText$Pattern")) : Cond) ∈ ga_tbl := ga_m (List.mem_of_getElem? (i := 349) (by decide +kernel)) rfl
theorem kw_350 : (Cond.methodLink "PatternText" 66 ⟨"PatternText", "isDay", "(I)Z"⟩ : Cond) ∈ ga_tbl := ga_m (List.mem_of_getElem? (i := 350) (by decide +kernel)) rfl
theorem kw_351 : (Cond.static ⟨"PatternText", "isDay", "(I)Z"⟩ : Cond) ∈ ga_tbl := ga_m (List.mem_of_getElem? (i := 351) (by decide +kernel)) rfl
theorem kw_352 : (Cond.code ⟨"PatternText", "isDay", "(I)Z"⟩ prog_1_method_16_code 1 (some .boolean) : Cond) ∈ ga_tbl := ga_m (List.mem_of_getElem? (i := 352) (by decide +kernel)) rfl
theorem kw_353 : (Cond.constant "PatternText" 147 1000000 : Cond) ∈ ga_tbl := ga_m (List.mem_of_getElem? (i := 353) (by decide +kernel)) rfl
theorem kw_354 : (Cond.methodLink "PatternText" 70 ⟨"PatternText$IssueList", "cutTo", "(I)V"⟩ : Cond) ∈ ga_tbl := ga_m (List.mem_of_getElem? (i := 354) (by decide +kernel)) rfl
theorem kw_355 : (Cond.instanceMethod ⟨"PatternText$IssueList", "cutTo", "(I)V"⟩ : Cond) ∈ ga_tbl := ga_m (List.mem_of_getElem? (i := 355) (by decide +kernel)) rfl
theorem kw_356 : (Cond.selects "PatternText$IssueList" ⟨"PatternText$IssueList", "cutTo", "(I)V"⟩ ⟨"PatternText$IssueList", "cutTo", "(I)V"⟩ : Cond) ∈ ga_tbl := ga_m (List.mem_of_getElem? (i := 356) (by decide +kernel)) rfl
theorem kw_357 : (Cond.code ⟨"PatternText$IssueList", "cutTo", "(I)V"⟩ prog_3_method_6_code 2 none : Cond) ∈ ga_tbl := ga_m (List.mem_of_getElem? (i := 357) (by decide +kernel)) rfl
theorem kw_358 : (Cond.methodLink "PatternText" 73 ⟨"PatternText$IssueList", "goOn", "(LPatternText$Pattern;IILPatternText$Holidays;)V"⟩ : Cond) ∈ ga_tbl := ga_m (List.mem_of_getElem? (i := 358) (by decide +kernel)) rfl
theorem kw_359 : (Cond.instanceMethod ⟨"PatternText$IssueList", "goOn", "(LPatternText$Pattern;IILPatternText$Holidays;)V"⟩ : Cond) ∈ ga_tbl := ga_m (List.mem_of_getElem? (i := 359) (by decide +kernel)) rfl
theorem kw_360 : (Cond.selects "PatternText$IssueList" ⟨"PatternText$IssueList", "goOn", "(LPatternText$Pattern;IILPatternText$Holidays;)V"⟩ ⟨"PatternText$IssueList", "goOn", "(LPatternText$Pattern;IILPatternText$Holidays;)V"⟩ : Cond) ∈ ga_tbl := ga_m (List.mem_of_getElem? (i := 360) (by decide +kernel)) rfl
theorem kw_361 : (Cond.code ⟨"PatternText$IssueList", "goOn", "(LPatternText$Pattern;IILPatternText$Holidays;)V"⟩ prog_3_method_7_code 9 none : Cond) ∈ ga_tbl := ga_m (List.mem_of_getElem? (i := 361) (by decide +kernel)) rfl
theorem kw_362 : (Cond.methodLink "PatternText$IssueList" 56 ⟨"PatternText$Pattern", "stepWithIssue", "(I)I"⟩ : Cond) ∈ ga_tbl := ga_m (List.mem_of_getElem? (i := 362) (by decide +kernel)) rfl
theorem kw_363 : (Cond.instanceMethod ⟨"PatternText$Pattern", "stepWithIssue", "(I)I"⟩ : Cond) ∈ ga_tbl := ga_m (List.mem_of_getElem? (i := 363) (by decide +kernel)) rfl
theorem kw_364 : (Cond.selects "PatternText$Pattern" ⟨"PatternText$Pattern", "stepWithIssue", "(I)I"⟩ ⟨"PatternText$Pattern", "stepWithIssue", "(I)I"⟩ : Cond) ∈ ga_tbl := ga_m (List.mem_of_getElem? (i := 364) (by decide +kernel)) rfl
theorem kw_365 : (Cond.code ⟨"PatternText$Pattern", "stepWithIssue", "(I)I"⟩ prog_4_method_3_code 4 (some .int) : Cond) ∈ ga_tbl := ga_m (List.mem_of_getElem? (i := 365) (by decide +kernel)) rfl
theorem kw_366 : (Cond.constant "PatternText$Pattern" 35 1000000 : Cond) ∈ ga_tbl := ga_m (List.mem_of_getElem? (i := 366) (by decide +kernel)) rfl
theorem kw_367 : (Cond.methodLink "PatternText$Pattern" 36 ⟨"PatternText$Pattern", "hasIssueOn", "(I)Z"⟩ : Cond) ∈ ga_tbl := ga_m (List.mem_of_getElem? (i := 367) (by decide +kernel)) rfl
theorem kw_368 : (Cond.instanceMethod ⟨"PatternText$Pattern", "hasIssueOn", "(I)Z"⟩ : Cond) ∈ ga_tbl := ga_m (List.mem_of_getElem? (i := 368) (by decide +kernel)) rfl
theorem kw_369 : (Cond.selects "PatternText$Pattern" ⟨"PatternText$Pattern", "hasIssueOn", "(I)Z"⟩ ⟨"PatternText$Pattern", "hasIssueOn", "(I)Z"⟩ : Cond) ∈ ga_tbl := ga_m (List.mem_of_getElem? (i := 369) (by decide +kernel)) rfl
theorem kw_370 : (Cond.code ⟨"PatternText$Pattern", "hasIssueOn", "(I)Z"⟩ prog_4_method_2_code 3 (some .boolean) : Cond) ∈ ga_tbl := ga_m (List.mem_of_getElem? (i := 370) (by decide +kernel)) rfl
theorem kw_371 : (Cond.methodLink "PatternText$IssueList" 62 ⟨"PatternText$Holidays", "dayFrom", "(I)I"⟩ : Cond) ∈ ga_tbl := ga_m (List.mem_of_getElem? (i := 371) (by decide +kernel)) rfl
theorem kw_372 : (Cond.instanceMethod ⟨"PatternText$Holidays", "dayFrom", "(I)I"⟩ : Cond) ∈ ga_tbl := ga_m (List.mem_of_getElem? (i := 372) (by decide +kernel)) rfl
theorem kw_373 : (Cond.selects "PatternText$Holidays" ⟨"PatternText$Holidays", "dayFrom", "(I)I"⟩ ⟨"PatternText$Holidays", "dayFrom", "(I)I"⟩ : Cond) ∈ ga_tbl := ga_m (List.mem_of_getElem? (i := 373) (by decide +kernel)) rfl
theorem kw_374 : (Cond.code ⟨"PatternText$Holidays", "dayFrom", "(I)I"⟩ prog_2_method_3_code 4 (some .int) : Cond) ∈ ga_tbl := ga_m (List.mem_of_getElem? (i := 374) (by decide +kernel)) rfl
theorem kw_375 : (Cond.constant "PatternText$IssueList" 67 1000000 : Cond) ∈ ga_tbl := ga_m (List.mem_of_getElem? (i := 375) (by decide +kernel)) rfl
theorem kw_376 : (Cond.methodLink "PatternText$IssueList" 68 ⟨"PatternText$Pattern", "numbersOfIssue", "(I)I"⟩ : Cond) ∈ ga_tbl := ga_m (List.mem_of_getElem? (i := 376) (by decide +kernel)) rfl
theorem kw_377 : (Cond.instanceMethod ⟨"PatternText$Pattern", "numbersOfIssue", "(I)I"⟩ : Cond) ∈ ga_tbl := ga_m (List.mem_of_getElem? (i := 377) (by decide +kernel)) rfl
theorem kw_378 : (Cond.selects "PatternText$Pattern" ⟨"PatternText$Pattern", "numbersOfIssue", "(I)I"⟩ ⟨"PatternText$Pattern", "numbersOfIssue", "(I)I"⟩ : Cond) ∈ ga_tbl := ga_m (List.mem_of_getElem? (i := 378) (by decide +kernel)) rfl
theorem kw_379 : (Cond.code ⟨"PatternText$Pattern", "numbersOfIssue", "(I)I"⟩ prog_4_method_5_code 2 (some .int) : Cond) ∈ ga_tbl := ga_m (List.mem_of_getElem? (i := 379) (by decide +kernel)) rfl
theorem kw_380 : (Cond.methodLink "PatternText$IssueList" 71 ⟨"PatternText$IssueList", "put", "(LPatternText$Pattern;III)V"⟩ : Cond) ∈ ga_tbl := ga_m (List.mem_of_getElem? (i := 380) (by decide +kernel)) rfl
theorem kl_381 : (Cond.privateMethod ⟨"PatternText$IssueList", "put", "(LPatternText$Pattern;III)V"⟩ : Cond) ∈ lw_tbl := List.mem_of_getElem? (i := 381) (by decide +kernel)
theorem kw_382 : (Cond.instanceMethod ⟨"PatternText$IssueList", "put", "(LPatternText$Pattern;III)V"⟩ : Cond) ∈ ga_tbl := ga_m (List.mem_of_getElem? (i := 382) (by decide +kernel)) rfl
theorem kw_383 : (Cond.code ⟨"PatternText$IssueList", "put", "(LPatternText$Pattern;III)V"⟩ prog_3_method_8_code 7 none : Cond) ∈ ga_tbl := ga_m (List.mem_of_getElem? (i := 383) (by decide +kernel)) rfl
theorem kw_384 : (Cond.methodLink "PatternText$IssueList" 78 ⟨"PatternText$Pattern", "asTold", "(I)I"⟩ : Cond) ∈ ga_tbl := ga_m (List.mem_of_getElem? (i := 384) (by decide +kernel)) rfl
theorem kw_385 : (Cond.instanceMethod ⟨"PatternText$Pattern", "asTold", "(I)I"⟩ : Cond) ∈ ga_tbl := ga_m (List.mem_of_getElem? (i := 385) (by decide +kernel)) rfl
theorem kw_386 : (Cond.selects "PatternText$Pattern" ⟨"PatternText$Pattern", "asTold", "(I)I"⟩ ⟨"PatternText$Pattern", "asTold", "(I)I"⟩ : Cond) ∈ ga_tbl := ga_m (List.mem_of_getElem? (i := 386) (by decide +kernel)) rfl
theorem kw_387 : (Cond.code ⟨"PatternText$Pattern", "asTold", "(I)I"⟩ prog_4_method_7_code 2 (some .int) : Cond) ∈ ga_tbl := ga_m (List.mem_of_getElem? (i := 387) (by decide +kernel)) rfl
theorem kw_388 : (Cond.methodLink "PatternText$IssueList" 81 ⟨"PatternText$Pattern", "volumeOf", "(I)I"⟩ : Cond) ∈ ga_tbl := ga_m (List.mem_of_getElem? (i := 388) (by decide +kernel)) rfl
theorem kw_389 : (Cond.instanceMethod ⟨"PatternText$Pattern", "volumeOf", "(I)I"⟩ : Cond) ∈ ga_tbl := ga_m (List.mem_of_getElem? (i := 389) (by decide +kernel)) rfl
theorem kw_390 : (Cond.selects "PatternText$Pattern" ⟨"PatternText$Pattern", "volumeOf", "(I)I"⟩ ⟨"PatternText$Pattern", "volumeOf", "(I)I"⟩ : Cond) ∈ ga_tbl := ga_m (List.mem_of_getElem? (i := 390) (by decide +kernel)) rfl
theorem kw_391 : (Cond.code ⟨"PatternText$Pattern", "volumeOf", "(I)I"⟩ prog_4_method_6_code 2 (some .int) : Cond) ∈ ga_tbl := ga_m (List.mem_of_getElem? (i := 391) (by decide +kernel)) rfl
theorem kw_392 : (Cond.methodLink "PatternTextLaw" 33 ⟨"PatternText", "changed", "(II)I"⟩ : Cond) ∈ ga_tbl := ga_m (List.mem_of_getElem? (i := 392) (by decide +kernel)) rfl
theorem kw_393 : (Cond.instanceMethod ⟨"PatternText", "changed", "(II)I"⟩ : Cond) ∈ ga_tbl := ga_m (List.mem_of_getElem? (i := 393) (by decide +kernel)) rfl
theorem kw_394 : (Cond.selects "PatternText" ⟨"PatternText", "changed", "(II)I"⟩ ⟨"PatternText", "changed", "(II)I"⟩ : Cond) ∈ ga_tbl := ga_m (List.mem_of_getElem? (i := 394) (by decide +kernel)) rfl
theorem kw_395 : (Cond.code ⟨"PatternText", "changed", "(II)I"⟩ prog_1_method_5_code 6 (some .int) : Cond) ∈ ga_tbl := ga_m (List.mem_of_getElem? (i := 395) (by decide +kernel)) rfl
theorem kw_396 : (Cond.methodLink "PatternText" 80 ⟨"PatternText$IssueList", "countBefore", "(I)I"⟩ : Cond) ∈ ga_tbl := ga_m (List.mem_of_getElem? (i := 396) (by decide +kernel)) rfl
theorem kw_397 : (Cond.instanceMethod ⟨"PatternText$IssueList", "countBefore", "(I)I"⟩ : Cond) ∈ ga_tbl := ga_m (List.mem_of_getElem? (i := 397) (by decide +kernel)) rfl
theorem kw_398 : (Cond.selects "PatternText$IssueList" ⟨"PatternText$IssueList", "countBefore", "(I)I"⟩ ⟨"PatternText$IssueList", "countBefore", "(I)I"⟩ : Cond) ∈ ga_tbl := ga_m (List.mem_of_getElem? (i := 398) (by decide +kernel)) rfl
theorem kw_399 : (Cond.code ⟨"PatternText$IssueList", "countBefore", "(I)I"⟩ prog_3_method_5_code 3 (some .int) : Cond) ∈ ga_tbl := ga_m (List.mem_of_getElem? (i := 399) (by decide +kernel)) rfl
theorem kw_400 : (Cond.methodLink "PatternText" 84 ⟨"PatternText$IssueList", "hasComeFrom", "(I)Z"⟩ : Cond) ∈ ga_tbl := ga_m (List.mem_of_getElem? (i := 400) (by decide +kernel)) rfl
theorem kw_401 : (Cond.instanceMethod ⟨"PatternText$IssueList", "hasComeFrom", "(I)Z"⟩ : Cond) ∈ ga_tbl := ga_m (List.mem_of_getElem? (i := 401) (by decide +kernel)) rfl
theorem kw_402 : (Cond.selects "PatternText$IssueList" ⟨"PatternText$IssueList", "hasComeFrom", "(I)Z"⟩ ⟨"PatternText$IssueList", "hasComeFrom", "(I)Z"⟩ : Cond) ∈ ga_tbl := ga_m (List.mem_of_getElem? (i := 402) (by decide +kernel)) rfl
theorem kw_403 : (Cond.code ⟨"PatternText$IssueList", "hasComeFrom", "(I)Z"⟩ prog_3_method_4_code 3 (some .boolean) : Cond) ∈ ga_tbl := ga_m (List.mem_of_getElem? (i := 403) (by decide +kernel)) rfl
theorem kw_404 : (Cond.methodLink "PatternText$IssueList" 47 ⟨"java/lang/Math", "max", "(II)I"⟩ : Cond) ∈ ga_tbl := ga_m (List.mem_of_getElem? (i := 404) (by decide +kernel)) rfl
theorem kw_405 : (Cond.static ⟨"java/lang/Math", "max", "(II)I"⟩ : Cond) ∈ ga_tbl := ga_m (List.mem_of_getElem? (i := 405) (by decide +kernel)) rfl
theorem kw_406 : (Cond.code ⟨"java/lang/Math", "max", "(II)I"⟩ prog_10_method_65_code 2 (some .int) : Cond) ∈ ga_tbl := ga_m (List.mem_of_getElem? (i := 406) (by decide +kernel)) rfl
theorem kw_407 : (Cond.methodLink "PatternText$IssueList" 53 ⟨"PatternText$IssueList", "isOut", "(I)Z"⟩ : Cond) ∈ ga_tbl := ga_m (List.mem_of_getElem? (i := 407) (by decide +kernel)) rfl
theorem kw_408 : (Cond.instanceMethod ⟨"PatternText$IssueList", "isOut", "(I)Z"⟩ : Cond) ∈ ga_tbl := ga_m (List.mem_of_getElem? (i := 408) (by decide +kernel)) rfl
theorem kw_409 : (Cond.selects "PatternText$IssueList" ⟨"PatternText$IssueList", "isOut", "(I)Z"⟩ ⟨"PatternText$IssueList", "isOut", "(I)Z"⟩ : Cond) ∈ ga_tbl := ga_m (List.mem_of_getElem? (i := 409) (by decide +kernel)) rfl
theorem kw_410 : (Cond.code ⟨"PatternText$IssueList", "isOut", "(I)Z"⟩ prog_3_method_3_code 2 (some .boolean) : Cond) ∈ ga_tbl := ga_m (List.mem_of_getElem? (i := 410) (by decide +kernel)) rfl
theorem kw_411 : (Cond.methodLink "PatternText$IssueList" 43 ⟨"PatternText$IssueList", "has", "(I)Z"⟩ : Cond) ∈ ga_tbl := ga_m (List.mem_of_getElem? (i := 411) (by decide +kernel)) rfl
theorem kw_412 : (Cond.instanceMethod ⟨"PatternText$IssueList", "has", "(I)Z"⟩ : Cond) ∈ ga_tbl := ga_m (List.mem_of_getElem? (i := 412) (by decide +kernel)) rfl
theorem kw_413 : (Cond.selects "PatternText$IssueList" ⟨"PatternText$IssueList", "has", "(I)Z"⟩ ⟨"PatternText$IssueList", "has", "(I)Z"⟩ : Cond) ∈ ga_tbl := ga_m (List.mem_of_getElem? (i := 413) (by decide +kernel)) rfl
theorem kw_414 : (Cond.code ⟨"PatternText$IssueList", "has", "(I)Z"⟩ prog_3_method_2_code 2 (some .boolean) : Cond) ∈ ga_tbl := ga_m (List.mem_of_getElem? (i := 414) (by decide +kernel)) rfl
theorem kw_415 : (Cond.methodLink "PatternTextLaw" 38 ⟨"PatternText", "issue", "(II)I"⟩ : Cond) ∈ ga_tbl := ga_m (List.mem_of_getElem? (i := 415) (by decide +kernel)) rfl
theorem kw_416 : (Cond.instanceMethod ⟨"PatternText", "issue", "(II)I"⟩ : Cond) ∈ ga_tbl := ga_m (List.mem_of_getElem? (i := 416) (by decide +kernel)) rfl
theorem kw_417 : (Cond.selects "PatternText" ⟨"PatternText", "issue", "(II)I"⟩ ⟨"PatternText", "issue", "(II)I"⟩ : Cond) ∈ ga_tbl := ga_m (List.mem_of_getElem? (i := 417) (by decide +kernel)) rfl
theorem kw_418 : (Cond.code ⟨"PatternText", "issue", "(II)I"⟩ prog_1_method_6_code 3 (some .int) : Cond) ∈ ga_tbl := ga_m (List.mem_of_getElem? (i := 418) (by decide +kernel)) rfl
theorem kw_419 : (Cond.methodLink "PatternText" 87 ⟨"PatternText$IssueList", "has", "(I)Z"⟩ : Cond) ∈ ga_tbl := ga_m (List.mem_of_getElem? (i := 419) (by decide +kernel)) rfl
theorem kw_420 : (Cond.methodLink "PatternText" 105 ⟨"PatternText$IssueList", "isOut", "(I)Z"⟩ : Cond) ∈ ga_tbl := ga_m (List.mem_of_getElem? (i := 420) (by decide +kernel)) rfl
theorem kw_421 : (Cond.methodLink "PatternTextLaw" 42 ⟨"PatternText", "date", "(I)J"⟩ : Cond) ∈ ga_tbl := ga_m (List.mem_of_getElem? (i := 421) (by decide +kernel)) rfl
theorem kw_422 : (Cond.instanceMethod ⟨"PatternText", "date", "(I)J"⟩ : Cond) ∈ ga_tbl := ga_m (List.mem_of_getElem? (i := 422) (by decide +kernel)) rfl
theorem kw_423 : (Cond.selects "PatternText" ⟨"PatternText", "date", "(I)J"⟩ ⟨"PatternText", "date", "(I)J"⟩ : Cond) ∈ ga_tbl := ga_m (List.mem_of_getElem? (i := 423) (by decide +kernel)) rfl
theorem kw_424 : (Cond.code ⟨"PatternText", "date", "(I)J"⟩ prog_1_method_7_code 2 (some .long) : Cond) ∈ ga_tbl := ga_m (List.mem_of_getElem? (i := 424) (by decide +kernel)) rfl
theorem kw_425 : (Cond.constantLong "PatternText" 111 (-1) : Cond) ∈ ga_tbl := ga_m (List.mem_of_getElem? (i := 425) (by decide +kernel)) rfl
theorem kw_426 : (Cond.methodLink "PatternTextLaw" 47 ⟨"PatternText", "irregular", "(II)I"⟩ : Cond) ∈ ga_tbl := ga_m (List.mem_of_getElem? (i := 426) (by decide +kernel)) rfl
theorem kw_427 : (Cond.instanceMethod ⟨"PatternText", "irregular", "(II)I"⟩ : Cond) ∈ ga_tbl := ga_m (List.mem_of_getElem? (i := 427) (by decide +kernel)) rfl
theorem kw_428 : (Cond.selects "PatternText" ⟨"PatternText", "irregular", "(II)I"⟩ ⟨"PatternText", "irregular", "(II)I"⟩ : Cond) ∈ ga_tbl := ga_m (List.mem_of_getElem? (i := 428) (by decide +kernel)) rfl
theorem kw_429 : (Cond.code ⟨"PatternText", "irregular", "(II)I"⟩ prog_1_method_8_code 3 (some .int) : Cond) ∈ ga_tbl := ga_m (List.mem_of_getElem? (i := 429) (by decide +kernel)) rfl
theorem kw_430 : (Cond.methodLink "PatternTextLaw" 51 ⟨"PatternText", "holiday", "(I)I"⟩ : Cond) ∈ ga_tbl := ga_m (List.mem_of_getElem? (i := 430) (by decide +kernel)) rfl
theorem kw_431 : (Cond.instanceMethod ⟨"PatternText", "holiday", "(I)I"⟩ : Cond) ∈ ga_tbl := ga_m (List.mem_of_getElem? (i := 431) (by decide +kernel)) rfl
theorem kw_432 : (Cond.selects "PatternText" ⟨"PatternText", "holiday", "(I)I"⟩ ⟨"PatternText", "holiday", "(I)I"⟩ : Cond) ∈ ga_tbl := ga_m (List.mem_of_getElem? (i := 432) (by decide +kernel)) rfl
theorem kw_433 : (Cond.code ⟨"PatternText", "holiday", "(I)I"⟩ prog_1_method_9_code 2 (some .int) : Cond) ∈ ga_tbl := ga_m (List.mem_of_getElem? (i := 433) (by decide +kernel)) rfl
theorem kw_434 : (Cond.methodLink "PatternText" 113 ⟨"PatternText$Holidays", "add", "(I)Z"⟩ : Cond) ∈ ga_tbl := ga_m (List.mem_of_getElem? (i := 434) (by decide +kernel)) rfl
theorem kw_435 : (Cond.instanceMethod ⟨"PatternText$Holidays", "add", "(I)Z"⟩ : Cond) ∈ ga_tbl := ga_m (List.mem_of_getElem? (i := 435) (by decide +kernel)) rfl
theorem kw_436 : (Cond.selects "PatternText$Holidays" ⟨"PatternText$Holidays", "add", "(I)Z"⟩ ⟨"PatternText$Holidays", "add", "(I)Z"⟩ : Cond) ∈ ga_tbl := ga_m (List.mem_of_getElem? (i := 436) (by decide +kernel)) rfl
theorem kw_437 : (Cond.code ⟨"PatternText$Holidays", "add", "(I)Z"⟩ prog_2_method_2_code 3 (some .boolean) : Cond) ∈ ga_tbl := ga_m (List.mem_of_getElem? (i := 437) (by decide +kernel)) rfl
theorem kw_438 : (Cond.methodLink "PatternText$Holidays" 19 ⟨"PatternText$Holidays", "dayFrom", "(I)I"⟩ : Cond) ∈ ga_tbl := ga_m (List.mem_of_getElem? (i := 438) (by decide +kernel)) rfl
theorem kw_439 : (Cond.methodLink "PatternTextLaw" 56 ⟨"PatternText", "came", "(II)I"⟩ : Cond) ∈ ga_tbl := ga_m (List.mem_of_getElem? (i := 439) (by decide +kernel)) rfl
theorem kw_440 : (Cond.instanceMethod ⟨"PatternText", "came", "(II)I"⟩ : Cond) ∈ ga_tbl := ga_m (List.mem_of_getElem? (i := 440) (by decide +kernel)) rfl
theorem kw_441 : (Cond.selects "PatternText" ⟨"PatternText", "came", "(II)I"⟩ ⟨"PatternText", "came", "(II)I"⟩ : Cond) ∈ ga_tbl := ga_m (List.mem_of_getElem? (i := 441) (by decide +kernel)) rfl
theorem kw_442 : (Cond.code ⟨"PatternText", "came", "(II)I"⟩ prog_1_method_10_code 3 (some .int) : Cond) ∈ ga_tbl := ga_m (List.mem_of_getElem? (i := 442) (by decide +kernel)) rfl
theorem kw_443 : (Cond.methodLink "PatternTextLaw" 60 ⟨"PatternText", "late", "(II)I"⟩ : Cond) ∈ ga_tbl := ga_m (List.mem_of_getElem? (i := 443) (by decide +kernel)) rfl
theorem kw_444 : (Cond.instanceMethod ⟨"PatternText", "late", "(II)I"⟩ : Cond) ∈ ga_tbl := ga_m (List.mem_of_getElem? (i := 444) (by decide +kernel)) rfl
theorem kw_445 : (Cond.selects "PatternText" ⟨"PatternText", "late", "(II)I"⟩ ⟨"PatternText", "late", "(II)I"⟩ : Cond) ∈ ga_tbl := ga_m (List.mem_of_getElem? (i := 445) (by decide +kernel)) rfl
theorem kw_446 : (Cond.code ⟨"PatternText", "late", "(II)I"⟩ prog_1_method_11_code 4 (some .int) : Cond) ∈ ga_tbl := ga_m (List.mem_of_getElem? (i := 446) (by decide +kernel)) rfl
theorem kw_447 : (Cond.methodLink "PatternText" 122 ⟨"java/lang/Math", "max", "(II)I"⟩ : Cond) ∈ ga_tbl := ga_m (List.mem_of_getElem? (i := 447) (by decide +kernel)) rfl
theorem kw_448 : (Cond.methodLink "PatternTextLaw" 64 ⟨"PatternText", "claim", "(II)I"⟩ : Cond) ∈ ga_tbl := ga_m (List.mem_of_getElem? (i := 448) (by decide +kernel)) rfl
theorem kw_449 : (Cond.instanceMethod ⟨"PatternText", "claim", "(II)I"⟩ : Cond) ∈ ga_tbl := ga_m (List.mem_of_getElem? (i := 449) (by decide +kernel)) rfl
theorem kw_450 : (Cond.selects "PatternText" ⟨"PatternText", "claim", "(II)I"⟩ ⟨"PatternText", "claim", "(II)I"⟩ : Cond) ∈ ga_tbl := ga_m (List.mem_of_getElem? (i := 450) (by decide +kernel)) rfl
theorem kw_451 : (Cond.code ⟨"PatternText", "claim", "(II)I"⟩ prog_1_method_12_code 5 (some .int) : Cond) ∈ ga_tbl := ga_m (List.mem_of_getElem? (i := 451) (by decide +kernel)) rfl
theorem kw_452 : (Cond.methodLink "PatternText" 128 ⟨"PatternText$IssueList", "countOverdue", "(I)I"⟩ : Cond) ∈ ga_tbl := ga_m (List.mem_of_getElem? (i := 452) (by decide +kernel)) rfl
theorem kw_453 : (Cond.instanceMethod ⟨"PatternText$IssueList", "countOverdue", "(I)I"⟩ : Cond) ∈ ga_tbl := ga_m (List.mem_of_getElem? (i := 453) (by decide +kernel)) rfl
theorem kw_454 : (Cond.selects "PatternText$IssueList" ⟨"PatternText$IssueList", "countOverdue", "(I)I"⟩ ⟨"PatternText$IssueList", "countOverdue", "(I)I"⟩ : Cond) ∈ ga_tbl := ga_m (List.mem_of_getElem? (i := 454) (by decide +kernel)) rfl
theorem kw_455 : (Cond.code ⟨"PatternText$IssueList", "countOverdue", "(I)I"⟩ prog_3_method_10_code 4 (some .int) : Cond) ∈ ga_tbl := ga_m (List.mem_of_getElem? (i := 455) (by decide +kernel)) rfl
theorem kw_456 : (Cond.methodLink "PatternText$IssueList" 87 ⟨"PatternText$IssueList", "isOverdue", "(II)Z"⟩ : Cond) ∈ ga_tbl := ga_m (List.mem_of_getElem? (i := 456) (by decide +kernel)) rfl
theorem kl_457 : (Cond.privateMethod ⟨"PatternText$IssueList", "isOverdue", "(II)Z"⟩ : Cond) ∈ lw_tbl := List.mem_of_getElem? (i := 457) (by decide +kernel)
theorem kw_458 : (Cond.instanceMethod ⟨"PatternText$IssueList", "isOverdue", "(II)Z"⟩ : Cond) ∈ ga_tbl := ga_m (List.mem_of_getElem? (i := 458) (by decide +kernel)) rfl
theorem kw_459 : (Cond.code ⟨"PatternText$IssueList", "isOverdue", "(II)Z"⟩ prog_3_method_9_code 3 (some .boolean) : Cond) ∈ ga_tbl := ga_m (List.mem_of_getElem? (i := 459) (by decide +kernel)) rfl
theorem kw_460 : (Cond.methodLink "PatternText" 131 ⟨"PatternText$IssueList", "nextOverdue", "(II)I"⟩ : Cond) ∈ ga_tbl := ga_m (List.mem_of_getElem? (i := 460) (by decide +kernel)) rfl
theorem kw_461 : (Cond.instanceMethod ⟨"PatternText$IssueList", "nextOverdue", "(II)I"⟩ : Cond) ∈ ga_tbl := ga_m (List.mem_of_getElem? (i := 461) (by decide +kernel)) rfl
theorem kw_462 : (Cond.selects "PatternText$IssueList" ⟨"PatternText$IssueList", "nextOverdue", "(II)I"⟩ ⟨"PatternText$IssueList", "nextOverdue", "(II)I"⟩ : Cond) ∈ ga_tbl := ga_m (List.mem_of_getElem? (i := 462) (by decide +kernel)) rfl
theorem kw_463 : (Cond.code ⟨"PatternText$IssueList", "nextOverdue", "(II)I"⟩ prog_3_method_11_code 6 (some .int) : Cond) ∈ ga_tbl := ga_m (List.mem_of_getElem? (i := 463) (by decide +kernel)) rfl
theorem kw_464 : (Cond.methodLink "PatternText$IssueList" 91 ⟨"PatternText$IssueList", "isClaimedBefore", "(II)Z"⟩ : Cond) ∈ ga_tbl := ga_m (List.mem_of_getElem? (i := 464) (by decide +kernel)) rfl
theorem kl_465 : (Cond.privateMethod ⟨"PatternText$IssueList", "isClaimedBefore", "(II)Z"⟩ : Cond) ∈ lw_tbl := List.mem_of_getElem? (i := 465) (by decide +kernel)
theorem kw_466 : (Cond.instanceMethod ⟨"PatternText$IssueList", "isClaimedBefore", "(II)Z"⟩ : Cond) ∈ ga_tbl := ga_m (List.mem_of_getElem? (i := 466) (by decide +kernel)) rfl
theorem kw_467 : (Cond.code ⟨"PatternText$IssueList", "isClaimedBefore", "(II)Z"⟩ prog_3_method_12_code 3 (some .boolean) : Cond) ∈ ga_tbl := ga_m (List.mem_of_getElem? (i := 467) (by decide +kernel)) rfl
theorem kw_468 : (Cond.methodLink "PatternTextLaw" 68 ⟨"PatternText", "print", "(I)I"⟩ : Cond) ∈ ga_tbl := ga_m (List.mem_of_getElem? (i := 468) (by decide +kernel)) rfl
theorem kw_469 : (Cond.instanceMethod ⟨"PatternText", "print", "(I)I"⟩ : Cond) ∈ ga_tbl := ga_m (List.mem_of_getElem? (i := 469) (by decide +kernel)) rfl
theorem kw_470 : (Cond.selects "PatternText" ⟨"PatternText", "print", "(I)I"⟩ ⟨"PatternText", "print", "(I)I"⟩ : Cond) ∈ ga_tbl := ga_m (List.mem_of_getElem? (i := 470) (by decide +kernel)) rfl
theorem kw_471 : (Cond.code ⟨"PatternText", "print", "(I)I"⟩ prog_1_method_13_code 3 (some .int) : Cond) ∈ ga_tbl := ga_m (List.mem_of_getElem? (i := 471) (by decide +kernel)) rfl
theorem kw_472 : (Cond.methodLink "PatternTextLaw" 72 ⟨"PatternText", "at", "(I)I"⟩ : Cond) ∈ ga_tbl := ga_m (List.mem_of_getElem? (i := 472) (by decide +kernel)) rfl
theorem kw_473 : (Cond.instanceMethod ⟨"PatternText", "at", "(I)I"⟩ : Cond) ∈ ga_tbl := ga_m (List.mem_of_getElem? (i := 473) (by decide +kernel)) rfl
theorem kw_474 : (Cond.selects "PatternText" ⟨"PatternText", "at", "(I)I"⟩ ⟨"PatternText", "at", "(I)I"⟩ : Cond) ∈ ga_tbl := ga_m (List.mem_of_getElem? (i := 474) (by decide +kernel)) rfl
theorem kw_475 : (Cond.code ⟨"PatternText", "at", "(I)I"⟩ prog_1_method_14_code 2 (some .int) : Cond) ∈ ga_tbl := ga_m (List.mem_of_getElem? (i := 475) (by decide +kernel)) rfl
theorem kw_476 : (Cond.methodLink "PatternTextLaw" 76 ⟨"PatternTextLaw", "yearly", "(LPatternText;III[J)I"⟩ : Cond) ∈ ga_tbl := ga_m (List.mem_of_getElem? (i := 476) (by decide +kernel)) rfl
theorem kw_477 : (Cond.static ⟨"PatternTextLaw", "yearly", "(LPatternText;III[J)I"⟩ : Cond) ∈ ga_tbl := ga_m (List.mem_of_getElem? (i := 477) (by decide +kernel)) rfl
theorem kw_478 : (Cond.codeWith ⟨"PatternTextLaw", "yearly", "(LPatternText;III[J)I"⟩ method_3_code 6 (some .int) [(0, 12, 15, 13)] : Cond) ∈ ga_tbl := ga_m (List.mem_of_getElem? (i := 478) (by decide +kernel)) rfl
theorem kw_479 : (Cond.classLink "PatternTextLaw" 13 "java/lang/ArithmeticException" : Cond) ∈ ga_tbl := ga_m (List.mem_of_getElem? (i := 479) (by decide +kernel)) rfl
theorem kw_480 : (Cond.methodLink "PatternTextLaw" 7 ⟨"PatternText", "yearly", "(III)I"⟩ : Cond) ∈ ga_tbl := ga_m (List.mem_of_getElem? (i := 480) (by decide +kernel)) rfl
theorem kw_481 : (Cond.instanceMethod ⟨"PatternText", "yearly", "(III)I"⟩ : Cond) ∈ ga_tbl := ga_m (List.mem_of_getElem? (i := 481) (by decide +kernel)) rfl
theorem kw_482 : (Cond.selects "PatternText" ⟨"PatternText", "yearly", "(III)I"⟩ ⟨"PatternText", "yearly", "(III)I"⟩ : Cond) ∈ ga_tbl := ga_m (List.mem_of_getElem? (i := 482) (by decide +kernel)) rfl
theorem kw_483 : (Cond.code ⟨"PatternText", "yearly", "(III)I"⟩ prog_1_method_15_code 5 (some .int) : Cond) ∈ ga_tbl := ga_m (List.mem_of_getElem? (i := 483) (by decide +kernel)) rfl
theorem kw_484 : (Cond.classLink "PatternText" 137 "java/lang/ArithmeticException" : Cond) ∈ ga_tbl := ga_m (List.mem_of_getElem? (i := 484) (by decide +kernel)) rfl
theorem kw_485 : (Cond.instantiable "java/lang/ArithmeticException" 6 : Cond) ∈ ga_tbl := ga_m (List.mem_of_getElem? (i := 485) (by decide +kernel)) rfl
theorem kl_486 : (Cond.castable "java/lang/ArithmeticException" "java/lang/ArithmeticException" : Cond) ∈ lw_tbl := List.mem_of_getElem? (i := 486) (by decide +kernel)
theorem kl_487 : (Cond.declares ⟨"java/lang/RuntimeException", "<init>", "()V"⟩ : Cond) ∈ lw_tbl := List.mem_of_getElem? (i := 487) (by decide +kernel)
theorem kl_488 : (Cond.declares ⟨"java/lang/RuntimeException", "<init>", "(Ljava/lang/String;)V"⟩ : Cond) ∈ lw_tbl := List.mem_of_getElem? (i := 488) (by decide +kernel)
theorem kl_489 : (Cond.declares ⟨"java/lang/Exception", "<init>", "()V"⟩ : Cond) ∈ lw_tbl := List.mem_of_getElem? (i := 489) (by decide +kernel)
theorem kl_490 : (Cond.declares ⟨"java/lang/Exception", "<init>", "(Ljava/lang/String;)V"⟩ : Cond) ∈ lw_tbl := List.mem_of_getElem? (i := 490) (by decide +kernel)
theorem kl_491 : (Cond.declares ⟨"java/lang/Throwable", "<init>", "()V"⟩ : Cond) ∈ lw_tbl := List.mem_of_getElem? (i := 491) (by decide +kernel)
theorem kl_492 : (Cond.declares ⟨"java/lang/Throwable", "<init>", "(Ljava/lang/String;)V"⟩ : Cond) ∈ lw_tbl := List.mem_of_getElem? (i := 492) (by decide +kernel)
theorem kw_493 : (Cond.selects "java/lang/ArithmeticException" ⟨"java/lang/Throwable", "fillInStackTrace", "(I)Ljava/lang/Throwable;"⟩ ⟨"java/lang/Throwable", "fillInStackTrace", "(I)Ljava/lang/Throwable;"⟩ : Cond) ∈ ga_tbl := ga_m (List.mem_of_getElem? (i := 493) (by decide +kernel)) rfl
theorem kw_494 : (Cond.selects "java/lang/ArithmeticException" ⟨"java/lang/Throwable", "fillInStackTrace", "()Ljava/lang/Throwable;"⟩ ⟨"java/lang/Throwable", "fillInStackTrace", "()Ljava/lang/Throwable;"⟩ : Cond) ∈ ga_tbl := ga_m (List.mem_of_getElem? (i := 494) (by decide +kernel)) rfl
theorem kw_495 : (Cond.lays "java/lang/ArithmeticException" "java/lang/Throwable" "cause" "Ljava/lang/Throwable;" : Cond) ∈ ga_tbl := ga_m (List.mem_of_getElem? (i := 495) (by decide +kernel)) rfl
theorem kw_496 : (Cond.lays "java/lang/Throwable" "java/lang/Throwable" "cause" "Ljava/lang/Throwable;" : Cond) ∈ ga_tbl := ga_m (List.mem_of_getElem? (i := 496) (by decide +kernel)) rfl
theorem kw_497 : (Cond.lays "java/lang/ArithmeticException" "java/lang/Throwable" "stackTrace" "[Ljava/lang/StackTraceElement;" : Cond) ∈ ga_tbl := ga_m (List.mem_of_getElem? (i := 497) (by decide +kernel)) rfl
theorem kw_498 : (Cond.lays "java/lang/Throwable" "java/lang/Throwable" "stackTrace" "[Ljava/lang/StackTraceElement;" : Cond) ∈ ga_tbl := ga_m (List.mem_of_getElem? (i := 498) (by decide +kernel)) rfl
theorem kw_499 : (Cond.lays "java/lang/ArithmeticException" "java/lang/Throwable" "suppressedExceptions" "Ljava/util/List;" : Cond) ∈ ga_tbl := ga_m (List.mem_of_getElem? (i := 499) (by decide +kernel)) rfl
theorem kw_500 : (Cond.lays "java/lang/Throwable" "java/lang/Throwable" "suppressedExceptions" "Ljava/util/List;" : Cond) ∈ ga_tbl := ga_m (List.mem_of_getElem? (i := 500) (by decide +kernel)) rfl
theorem kw_501 : (Cond.lays "java/lang/ArithmeticException" "java/lang/Throwable" "detailMessage" "Ljava/lang/String;" : Cond) ∈ ga_tbl := ga_m (List.mem_of_getElem? (i := 501) (by decide +kernel)) rfl
theorem kw_502 : (Cond.lays "java/lang/Throwable" "java/lang/Throwable" "detailMessage" "Ljava/lang/String;" : Cond) ∈ ga_tbl := ga_m (List.mem_of_getElem? (i := 502) (by decide +kernel)) rfl
theorem kw_503 : (Cond.lays "java/lang/ArithmeticException" "java/lang/Throwable" "backtrace" "Ljava/lang/Object;" : Cond) ∈ ga_tbl := ga_m (List.mem_of_getElem? (i := 503) (by decide +kernel)) rfl
theorem kw_504 : (Cond.lays "java/lang/Throwable" "java/lang/Throwable" "backtrace" "Ljava/lang/Object;" : Cond) ∈ ga_tbl := ga_m (List.mem_of_getElem? (i := 504) (by decide +kernel)) rfl
theorem kw_505 : (Cond.fieldLink "java/lang/Throwable" 198 "java/lang/Throwable" "backtrace" "Ljava/lang/Object;" : Cond) ∈ ga_tbl := ga_m (List.mem_of_getElem? (i := 505) (by decide +kernel)) rfl
theorem kw_506 : (Cond.superclass "java/lang/Throwable" "java/lang/Object" : Cond) ∈ ga_tbl := ga_m (List.mem_of_getElem? (i := 506) (by decide +kernel)) rfl
theorem kw_507 : (Cond.instanceMethod ⟨"java/lang/Throwable", "<init>", "()V"⟩ : Cond) ∈ ga_tbl := ga_m (List.mem_of_getElem? (i := 507) (by decide +kernel)) rfl
theorem kw_508 : (Cond.code ⟨"java/lang/Throwable", "<init>", "()V"⟩ prog_16_method_1_code 1 none : Cond) ∈ ga_tbl := ga_m (List.mem_of_getElem? (i := 508) (by decide +kernel)) rfl
theorem kw_509 : (Cond.methodLink "java/lang/Throwable" 1 ⟨"java/lang/Object", "<init>", "()V"⟩ : Cond) ∈ ga_tbl := ga_m (List.mem_of_getElem? (i := 509) (by decide +kernel)) rfl
theorem kw_510 : (Cond.fieldLink "java/lang/Throwable" 13 "java/lang/Throwable" "UNASSIGNED_STACK" "[Ljava/lang/StackTraceElement;" : Cond) ∈ ga_tbl := ga_m (List.mem_of_getElem? (i := 510) (by decide +kernel)) rfl
theorem kl_511 : (Cond.laysStatic "java/lang/Throwable" "UNASSIGNED_STACK" "[Ljava/lang/StackTraceElement;" : Cond) ∈ lw_tbl := List.mem_of_getElem? (i := 511) (by decide +kernel)
theorem kw_512 : (Cond.fieldLink "java/lang/Throwable" 20 "java/lang/Throwable" "SUPPRESSED_SENTINEL" "Ljava/util/List;" : Cond) ∈ ga_tbl := ga_m (List.mem_of_getElem? (i := 512) (by decide +kernel)) rfl
theorem kl_513 : (Cond.laysStatic "java/lang/Throwable" "SUPPRESSED_SENTINEL" "Ljava/util/List;" : Cond) ∈ lw_tbl := List.mem_of_getElem? (i := 513) (by decide +kernel)
theorem kw_514 : (Cond.methodLink "java/lang/Throwable" 27 ⟨"java/lang/Throwable", "fillInStackTrace", "()Ljava/lang/Throwable;"⟩ : Cond) ∈ ga_tbl := ga_m (List.mem_of_getElem? (i := 514) (by decide +kernel)) rfl
theorem kw_515 : (Cond.instanceMethod ⟨"java/lang/Throwable", "fillInStackTrace", "()Ljava/lang/Throwable;"⟩ : Cond) ∈ ga_tbl := ga_m (List.mem_of_getElem? (i := 515) (by decide +kernel)) rfl
theorem kw_516 : (Cond.sameMethod "java/lang/Throwable" "java/lang/Throwable" "fillInStackTrace" "()Ljava/lang/Throwable;" : Cond) ∈ ga_tbl := ga_m (List.mem_of_getElem? (i := 516) (by decide +kernel)) rfl
theorem kw_517 : (Cond.codeSync ⟨"java/lang/Throwable", "fillInStackTrace", "()Ljava/lang/Throwable;"⟩ prog_16_method_18_code 1 (some (.object "java/lang/Throwable")) : Cond) ∈ ga_tbl := ga_m (List.mem_of_getElem? (i := 517) (by decide +kernel)) rfl
theorem kw_518 : (Cond.methodLink "java/lang/Throwable" 202 ⟨"java/lang/Throwable", "fillInStackTrace", "(I)Ljava/lang/Throwable;"⟩ : Cond) ∈ ga_tbl := ga_m (List.mem_of_getElem? (i := 518) (by decide +kernel)) rfl
theorem kl_519 : (Cond.privateMethod ⟨"java/lang/Throwable", "fillInStackTrace", "(I)Ljava/lang/Throwable;"⟩ : Cond) ∈ lw_tbl := List.mem_of_getElem? (i := 519) (by decide +kernel)
theorem kw_520 : (Cond.instanceMethod ⟨"java/lang/Throwable", "fillInStackTrace", "(I)Ljava/lang/Throwable;"⟩ : Cond) ∈ ga_tbl := ga_m (List.mem_of_getElem? (i := 520) (by decide +kernel)) rfl
theorem kw_521 : (Cond.instantiable "java/lang/Throwable" 6 : Cond) ∈ ga_tbl := ga_m (List.mem_of_getElem? (i := 521) (by decide +kernel)) rfl
theorem kw_522 : (Cond.native ⟨"java/lang/Throwable", "fillInStackTrace", "(I)Ljava/lang/Throwable;"⟩ : Cond) ∈ ga_tbl := ga_m (List.mem_of_getElem? (i := 522) (by decide +kernel)) rfl
theorem kl_523 : (Cond.stringRef "PatternText" 139 "each is 0" : Cond) ∈ lw_tbl := List.mem_of_getElem? (i := 523) (by decide +kernel)
theorem kw_524 : (Cond.methodLink "PatternText" 141 ⟨"java/lang/ArithmeticException", "<init>", "(Ljava/lang/String;)V"⟩ : Cond) ∈ ga_tbl := ga_m (List.mem_of_getElem? (i := 524) (by decide +kernel)) rfl
theorem kw_525 : (Cond.instanceMethod ⟨"java/lang/ArithmeticException", "<init>", "(Ljava/lang/String;)V"⟩ : Cond) ∈ ga_tbl := ga_m (List.mem_of_getElem? (i := 525) (by decide +kernel)) rfl
theorem kw_526 : (Cond.code ⟨"java/lang/ArithmeticException", "<init>", "(Ljava/lang/String;)V"⟩ prog_8_method_2_code 2 none : Cond) ∈ ga_tbl := ga_m (List.mem_of_getElem? (i := 526) (by decide +kernel)) rfl
theorem kw_527 : (Cond.methodLink "java/lang/ArithmeticException" 7 ⟨"java/lang/RuntimeException", "<init>", "(Ljava/lang/String;)V"⟩ : Cond) ∈ ga_tbl := ga_m (List.mem_of_getElem? (i := 527) (by decide +kernel)) rfl
theorem kw_528 : (Cond.instanceMethod ⟨"java/lang/RuntimeException", "<init>", "(Ljava/lang/String;)V"⟩ : Cond) ∈ ga_tbl := ga_m (List.mem_of_getElem? (i := 528) (by decide +kernel)) rfl
theorem kw_529 : (Cond.code ⟨"java/lang/RuntimeException", "<init>", "(Ljava/lang/String;)V"⟩ prog_11_method_2_code 2 none : Cond) ∈ ga_tbl := ga_m (List.mem_of_getElem? (i := 529) (by decide +kernel)) rfl
theorem kw_530 : (Cond.methodLink "java/lang/RuntimeException" 7 ⟨"java/lang/Exception", "<init>", "(Ljava/lang/String;)V"⟩ : Cond) ∈ ga_tbl := ga_m (List.mem_of_getElem? (i := 530) (by decide +kernel)) rfl
theorem kw_531 : (Cond.instanceMethod ⟨"java/lang/Exception", "<init>", "(Ljava/lang/String;)V"⟩ : Cond) ∈ ga_tbl := ga_m (List.mem_of_getElem? (i := 531) (by decide +kernel)) rfl
theorem kw_532 : (Cond.code ⟨"java/lang/Exception", "<init>", "(Ljava/lang/String;)V"⟩ prog_9_method_2_code 2 none : Cond) ∈ ga_tbl := ga_m (List.mem_of_getElem? (i := 532) (by decide +kernel)) rfl
theorem kw_533 : (Cond.methodLink "java/lang/Exception" 7 ⟨"java/lang/Throwable", "<init>", "(Ljava/lang/String;)V"⟩ : Cond) ∈ ga_tbl := ga_m (List.mem_of_getElem? (i := 533) (by decide +kernel)) rfl
theorem kw_534 : (Cond.instanceMethod ⟨"java/lang/Throwable", "<init>", "(Ljava/lang/String;)V"⟩ : Cond) ∈ ga_tbl := ga_m (List.mem_of_getElem? (i := 534) (by decide +kernel)) rfl
theorem kw_535 : (Cond.code ⟨"java/lang/Throwable", "<init>", "(Ljava/lang/String;)V"⟩ prog_16_method_2_code 2 none : Cond) ∈ ga_tbl := ga_m (List.mem_of_getElem? (i := 535) (by decide +kernel)) rfl
theorem kw_537 : (Cond.fieldLink "java/lang/Throwable" 31 "java/lang/Throwable" "detailMessage" "Ljava/lang/String;" : Cond) ∈ ga_tbl := ga_m (List.mem_of_getElem? (i := 537) (by decide +kernel)) rfl
theorem kw_538 : (Cond.fieldLink "java/lang/Throwable" 7 "java/lang/Throwable" "cause" "Ljava/lang/Throwable;" : Cond) ∈ ga_tbl := ga_m (List.mem_of_getElem? (i := 538) (by decide +kernel)) rfl
theorem kw_539 : (Cond.fieldLink "java/lang/Throwable" 17 "java/lang/Throwable" "stackTrace" "[Ljava/lang/StackTraceElement;" : Cond) ∈ ga_tbl := ga_m (List.mem_of_getElem? (i := 539) (by decide +kernel)) rfl
theorem kw_540 : (Cond.fieldLink "java/lang/Throwable" 24 "java/lang/Throwable" "suppressedExceptions" "Ljava/util/List;" : Cond) ∈ ga_tbl := ga_m (List.mem_of_getElem? (i := 540) (by decide +kernel)) rfl
theorem kw_541 : (Cond.soleField "java/lang/Throwable" "backtrace" : Cond) ∈ ga_tbl := ga_m (List.mem_of_getElem? (i := 541) (by decide +kernel)) rfl
theorem kw_542 : (Cond.soleField "java/lang/Throwable" "detailMessage" : Cond) ∈ ga_tbl := ga_m (List.mem_of_getElem? (i := 542) (by decide +kernel)) rfl
theorem kw_543 : (Cond.soleField "java/lang/Throwable" "cause" : Cond) ∈ ga_tbl := ga_m (List.mem_of_getElem? (i := 543) (by decide +kernel)) rfl
theorem kw_544 : (Cond.soleField "java/lang/Throwable" "stackTrace" : Cond) ∈ ga_tbl := ga_m (List.mem_of_getElem? (i := 544) (by decide +kernel)) rfl
theorem kw_545 : (Cond.lays "java/lang/ArithmeticException" "java/lang/Throwable" "depth" "I" : Cond) ∈ ga_tbl := ga_m (List.mem_of_getElem? (i := 545) (by decide +kernel)) rfl
theorem kw_546 : (Cond.soleField "java/lang/Throwable" "depth" : Cond) ∈ ga_tbl := ga_m (List.mem_of_getElem? (i := 546) (by decide +kernel)) rfl
theorem kw_547 : (Cond.soleField "java/lang/Throwable" "suppressedExceptions" : Cond) ∈ ga_tbl := ga_m (List.mem_of_getElem? (i := 547) (by decide +kernel)) rfl
theorem kw_548 : (Cond.superclass "java/lang/ArithmeticException" "java/lang/RuntimeException" : Cond) ∈ ga_tbl := ga_m (List.mem_of_getElem? (i := 548) (by decide +kernel)) rfl
theorem kw_549 : (Cond.methodLink "PatternText" 144 ⟨"PatternText$Pattern", "issuesInYearFrom", "(I)I"⟩ : Cond) ∈ ga_tbl := ga_m (List.mem_of_getElem? (i := 549) (by decide +kernel)) rfl
theorem kw_550 : (Cond.instanceMethod ⟨"PatternText$Pattern", "issuesInYearFrom", "(I)I"⟩ : Cond) ∈ ga_tbl := ga_m (List.mem_of_getElem? (i := 550) (by decide +kernel)) rfl
theorem kw_551 : (Cond.selects "PatternText$Pattern" ⟨"PatternText$Pattern", "issuesInYearFrom", "(I)I"⟩ ⟨"PatternText$Pattern", "issuesInYearFrom", "(I)I"⟩ : Cond) ∈ ga_tbl := ga_m (List.mem_of_getElem? (i := 551) (by decide +kernel)) rfl
theorem kw_552 : (Cond.code ⟨"PatternText$Pattern", "issuesInYearFrom", "(I)I"⟩ prog_4_method_4_code 5 (some .int) : Cond) ∈ ga_tbl := ga_m (List.mem_of_getElem? (i := 552) (by decide +kernel)) rfl
theorem kw_553 : (Cond.classLink "PatternTextLaw" 16 "PatternTextModel" : Cond) ∈ ga_tbl := ga_m (List.mem_of_getElem? (i := 553) (by decide +kernel)) rfl
theorem kw_554 : (Cond.instantiable "PatternTextModel" 24 : Cond) ∈ ga_tbl := ga_m (List.mem_of_getElem? (i := 554) (by decide +kernel)) rfl
theorem kw_555 : (Cond.methodLink "PatternTextLaw" 18 ⟨"PatternTextModel", "<init>", "()V"⟩ : Cond) ∈ ga_tbl := ga_m (List.mem_of_getElem? (i := 555) (by decide +kernel)) rfl
theorem kw_556 : (Cond.instanceMethod ⟨"PatternTextModel", "<init>", "()V"⟩ : Cond) ∈ ga_tbl := ga_m (List.mem_of_getElem? (i := 556) (by decide +kernel)) rfl
theorem kw_557 : (Cond.code ⟨"PatternTextModel", "<init>", "()V"⟩ prog_7_method_1_code 1 none : Cond) ∈ ga_tbl := ga_m (List.mem_of_getElem? (i := 557) (by decide +kernel)) rfl
theorem kw_558 : (Cond.methodLink "PatternTextModel" 1 ⟨"java/lang/Object", "<init>", "()V"⟩ : Cond) ∈ ga_tbl := ga_m (List.mem_of_getElem? (i := 558) (by decide +kernel)) rfl
theorem kw_559 : (Cond.fieldLink "PatternTextModel" 60 "PatternTextModel" "thrown" "I" : Cond) ∈ ga_tbl := ga_m (List.mem_of_getElem? (i := 559) (by decide +kernel)) rfl
theorem kw_560 : (Cond.fieldLink "PatternTextModel" 7 "PatternTextModel" "said" "[B" : Cond) ∈ ga_tbl := ga_m (List.mem_of_getElem? (i := 560) (by decide +kernel)) rfl
theorem kw_561 : (Cond.fieldLink "PatternTextModel" 64 "PatternTextModel" "size" "I" : Cond) ∈ ga_tbl := ga_m (List.mem_of_getElem? (i := 561) (by decide +kernel)) rfl
theorem kw_562 : (Cond.fieldLink "PatternTextModel" 70 "PatternTextModel" "at" "I" : Cond) ∈ ga_tbl := ga_m (List.mem_of_getElem? (i := 562) (by decide +kernel)) rfl
theorem kw_563 : (Cond.fieldLink "PatternTextModel" 67 "PatternTextModel" "wrong" "I" : Cond) ∈ ga_tbl := ga_m (List.mem_of_getElem? (i := 563) (by decide +kernel)) rfl
theorem kw_564 : (Cond.fieldLink "PatternTextModel" 13 "PatternTextModel" "steps" "[I" : Cond) ∈ ga_tbl := ga_m (List.mem_of_getElem? (i := 564) (by decide +kernel)) rfl
theorem kw_565 : (Cond.fieldLink "PatternTextModel" 17 "PatternTextModel" "months" "[I" : Cond) ∈ ga_tbl := ga_m (List.mem_of_getElem? (i := 565) (by decide +kernel)) rfl
theorem kw_566 : (Cond.fieldLink "PatternTextModel" 20 "PatternTextModel" "joined" "[I" : Cond) ∈ ga_tbl := ga_m (List.mem_of_getElem? (i := 566) (by decide +kernel)) rfl
theorem kw_567 : (Cond.fieldLink "PatternTextModel" 23 "PatternTextModel" "volumes" "[I" : Cond) ∈ ga_tbl := ga_m (List.mem_of_getElem? (i := 567) (by decide +kernel)) rfl
theorem kw_568 : (Cond.fieldLink "PatternTextModel" 26 "PatternTextModel" "restarts" "[Z" : Cond) ∈ ga_tbl := ga_m (List.mem_of_getElem? (i := 568) (by decide +kernel)) rfl
theorem kw_569 : (Cond.fieldLink "PatternTextModel" 30 "PatternTextModel" "texts" "[B" : Cond) ∈ ga_tbl := ga_m (List.mem_of_getElem? (i := 569) (by decide +kernel)) rfl
theorem kw_570 : (Cond.fieldLink "PatternTextModel" 33 "PatternTextModel" "textSizes" "[I" : Cond) ∈ ga_tbl := ga_m (List.mem_of_getElem? (i := 570) (by decide +kernel)) rfl
theorem kw_571 : (Cond.fieldLink "PatternTextModel" 130 "PatternTextModel" "count" "I" : Cond) ∈ ga_tbl := ga_m (List.mem_of_getElem? (i := 571) (by decide +kernel)) rfl
theorem kw_572 : (Cond.fieldLink "PatternTextModel" 36 "PatternTextModel" "holidays" "[I" : Cond) ∈ ga_tbl := ga_m (List.mem_of_getElem? (i := 572) (by decide +kernel)) rfl
theorem kw_573 : (Cond.fieldLink "PatternTextModel" 137 "PatternTextModel" "holidayCount" "I" : Cond) ∈ ga_tbl := ga_m (List.mem_of_getElem? (i := 573) (by decide +kernel)) rfl
theorem kw_574 : (Cond.fieldLink "PatternTextModel" 39 "PatternTextModel" "stepOf" "[I" : Cond) ∈ ga_tbl := ga_m (List.mem_of_getElem? (i := 574) (by decide +kernel)) rfl
theorem kw_575 : (Cond.fieldLink "PatternTextModel" 42 "PatternTextModel" "expects" "[I" : Cond) ∈ ga_tbl := ga_m (List.mem_of_getElem? (i := 575) (by decide +kernel)) rfl
theorem kw_576 : (Cond.fieldLink "PatternTextModel" 45 "PatternTextModel" "numbers" "[I" : Cond) ∈ ga_tbl := ga_m (List.mem_of_getElem? (i := 576) (by decide +kernel)) rfl
theorem kw_577 : (Cond.fieldLink "PatternTextModel" 48 "PatternTextModel" "twice" "[Z" : Cond) ∈ ga_tbl := ga_m (List.mem_of_getElem? (i := 577) (by decide +kernel)) rfl
theorem kw_578 : (Cond.fieldLink "PatternTextModel" 51 "PatternTextModel" "patternOf" "[I" : Cond) ∈ ga_tbl := ga_m (List.mem_of_getElem? (i := 578) (by decide +kernel)) rfl
theorem kw_579 : (Cond.fieldLink "PatternTextModel" 54 "PatternTextModel" "came" "[I" : Cond) ∈ ga_tbl := ga_m (List.mem_of_getElem? (i := 579) (by decide +kernel)) rfl
theorem kw_580 : (Cond.fieldLink "PatternTextModel" 150 "PatternTextModel" "issues" "I" : Cond) ∈ ga_tbl := ga_m (List.mem_of_getElem? (i := 580) (by decide +kernel)) rfl
theorem kw_581 : (Cond.fieldLink "PatternTextModel" 57 "PatternTextModel" "printed" "[B" : Cond) ∈ ga_tbl := ga_m (List.mem_of_getElem? (i := 581) (by decide +kernel)) rfl
theorem kw_582 : (Cond.fieldLink "PatternTextModel" 172 "PatternTextModel" "printedSize" "I" : Cond) ∈ ga_tbl := ga_m (List.mem_of_getElem? (i := 582) (by decide +kernel)) rfl
theorem kw_583 : (Cond.lays "PatternTextModel" "PatternTextModel" "thrown" "I" : Cond) ∈ ga_tbl := ga_m (List.mem_of_getElem? (i := 583) (by decide +kernel)) rfl
theorem kw_584 : (Cond.soleField "PatternTextModel" "thrown" : Cond) ∈ ga_tbl := ga_m (List.mem_of_getElem? (i := 584) (by decide +kernel)) rfl
theorem kw_585 : (Cond.laysFinal "PatternTextModel" "PatternTextModel" "said" "[B" : Cond) ∈ ga_tbl := ga_m (List.mem_of_getElem? (i := 585) (by decide +kernel)) rfl
theorem kw_586 : (Cond.soleField "PatternTextModel" "said" : Cond) ∈ ga_tbl := ga_m (List.mem_of_getElem? (i := 586) (by decide +kernel)) rfl
theorem kw_587 : (Cond.lays "PatternTextModel" "PatternTextModel" "size" "I" : Cond) ∈ ga_tbl := ga_m (List.mem_of_getElem? (i := 587) (by decide +kernel)) rfl
theorem kw_588 : (Cond.soleField "PatternTextModel" "size" : Cond) ∈ ga_tbl := ga_m (List.mem_of_getElem? (i := 588) (by decide +kernel)) rfl
theorem kw_589 : (Cond.lays "PatternTextModel" "PatternTextModel" "at" "I" : Cond) ∈ ga_tbl := ga_m (List.mem_of_getElem? (i := 589) (by decide +kernel)) rfl
theorem kw_590 : (Cond.soleField "PatternTextModel" "at" : Cond) ∈ ga_tbl := ga_m (List.mem_of_getElem? (i := 590) (by decide +kernel)) rfl
theorem kw_591 : (Cond.lays "PatternTextModel" "PatternTextModel" "wrong" "I" : Cond) ∈ ga_tbl := ga_m (List.mem_of_getElem? (i := 591) (by decide +kernel)) rfl
theorem kw_592 : (Cond.soleField "PatternTextModel" "wrong" : Cond) ∈ ga_tbl := ga_m (List.mem_of_getElem? (i := 592) (by decide +kernel)) rfl
theorem kw_593 : (Cond.laysFinal "PatternTextModel" "PatternTextModel" "steps" "[I" : Cond) ∈ ga_tbl := ga_m (List.mem_of_getElem? (i := 593) (by decide +kernel)) rfl
theorem kw_594 : (Cond.soleField "PatternTextModel" "steps" : Cond) ∈ ga_tbl := ga_m (List.mem_of_getElem? (i := 594) (by decide +kernel)) rfl
theorem kw_595 : (Cond.laysFinal "PatternTextModel" "PatternTextModel" "months" "[I" : Cond) ∈ ga_tbl := ga_m (List.mem_of_getElem? (i := 595) (by decide +kernel)) rfl
theorem kw_596 : (Cond.soleField "PatternTextModel" "months" : Cond) ∈ ga_tbl := ga_m (List.mem_of_getElem? (i := 596) (by decide +kernel)) rfl
theorem kw_597 : (Cond.laysFinal "PatternTextModel" "PatternTextModel" "joined" "[I" : Cond) ∈ ga_tbl := ga_m (List.mem_of_getElem? (i := 597) (by decide +kernel)) rfl
theorem kw_598 : (Cond.soleField "PatternTextModel" "joined" : Cond) ∈ ga_tbl := ga_m (List.mem_of_getElem? (i := 598) (by decide +kernel)) rfl
theorem kw_599 : (Cond.laysFinal "PatternTextModel" "PatternTextModel" "volumes" "[I" : Cond) ∈ ga_tbl := ga_m (List.mem_of_getElem? (i := 599) (by decide +kernel)) rfl
theorem kw_600 : (Cond.soleField "PatternTextModel" "volumes" : Cond) ∈ ga_tbl := ga_m (List.mem_of_getElem? (i := 600) (by decide +kernel)) rfl
theorem kw_601 : (Cond.laysFinal "PatternTextModel" "PatternTextModel" "restarts" "[Z" : Cond) ∈ ga_tbl := ga_m (List.mem_of_getElem? (i := 601) (by decide +kernel)) rfl
theorem kw_602 : (Cond.soleField "PatternTextModel" "restarts" : Cond) ∈ ga_tbl := ga_m (List.mem_of_getElem? (i := 602) (by decide +kernel)) rfl
theorem kw_603 : (Cond.laysFinal "PatternTextModel" "PatternTextModel" "texts" "[B" : Cond) ∈ ga_tbl := ga_m (List.mem_of_getElem? (i := 603) (by decide +kernel)) rfl
theorem kw_604 : (Cond.soleField "PatternTextModel" "texts" : Cond) ∈ ga_tbl := ga_m (List.mem_of_getElem? (i := 604) (by decide +kernel)) rfl
theorem kw_605 : (Cond.laysFinal "PatternTextModel" "PatternTextModel" "textSizes" "[I" : Cond) ∈ ga_tbl := ga_m (List.mem_of_getElem? (i := 605) (by decide +kernel)) rfl
theorem kw_606 : (Cond.soleField "PatternTextModel" "textSizes" : Cond) ∈ ga_tbl := ga_m (List.mem_of_getElem? (i := 606) (by decide +kernel)) rfl
theorem kw_607 : (Cond.lays "PatternTextModel" "PatternTextModel" "count" "I" : Cond) ∈ ga_tbl := ga_m (List.mem_of_getElem? (i := 607) (by decide +kernel)) rfl
theorem kw_608 : (Cond.soleField "PatternTextModel" "count" : Cond) ∈ ga_tbl := ga_m (List.mem_of_getElem? (i := 608) (by decide +kernel)) rfl
theorem kw_609 : (Cond.laysFinal "PatternTextModel" "PatternTextModel" "holidays" "[I" : Cond) ∈ ga_tbl := ga_m (List.mem_of_getElem? (i := 609) (by decide +kernel)) rfl
theorem kw_610 : (Cond.soleField "PatternTextModel" "holidays" : Cond) ∈ ga_tbl := ga_m (List.mem_of_getElem? (i := 610) (by decide +kernel)) rfl
theorem kw_611 : (Cond.lays "PatternTextModel" "PatternTextModel" "holidayCount" "I" : Cond) ∈ ga_tbl := ga_m (List.mem_of_getElem? (i := 611) (by decide +kernel)) rfl
theorem kw_612 : (Cond.soleField "PatternTextModel" "holidayCount" : Cond) ∈ ga_tbl := ga_m (List.mem_of_getElem? (i := 612) (by decide +kernel)) rfl
theorem kw_613 : (Cond.laysFinal "PatternTextModel" "PatternTextModel" "stepOf" "[I" : Cond) ∈ ga_tbl := ga_m (List.mem_of_getElem? (i := 613) (by decide +kernel)) rfl
theorem kw_614 : (Cond.soleField "PatternTextModel" "stepOf" : Cond) ∈ ga_tbl := ga_m (List.mem_of_getElem? (i := 614) (by decide +kernel)) rfl
theorem kw_615 : (Cond.laysFinal "PatternTextModel" "PatternTextModel" "expects" "[I" : Cond) ∈ ga_tbl := ga_m (List.mem_of_getElem? (i := 615) (by decide +kernel)) rfl
theorem kw_616 : (Cond.soleField "PatternTextModel" "expects" : Cond) ∈ ga_tbl := ga_m (List.mem_of_getElem? (i := 616) (by decide +kernel)) rfl
theorem kw_617 : (Cond.laysFinal "PatternTextModel" "PatternTextModel" "numbers" "[I" : Cond) ∈ ga_tbl := ga_m (List.mem_of_getElem? (i := 617) (by decide +kernel)) rfl
theorem kw_618 : (Cond.soleField "PatternTextModel" "numbers" : Cond) ∈ ga_tbl := ga_m (List.mem_of_getElem? (i := 618) (by decide +kernel)) rfl
theorem kw_619 : (Cond.laysFinal "PatternTextModel" "PatternTextModel" "twice" "[Z" : Cond) ∈ ga_tbl := ga_m (List.mem_of_getElem? (i := 619) (by decide +kernel)) rfl
theorem kw_620 : (Cond.soleField "PatternTextModel" "twice" : Cond) ∈ ga_tbl := ga_m (List.mem_of_getElem? (i := 620) (by decide +kernel)) rfl
theorem kw_621 : (Cond.laysFinal "PatternTextModel" "PatternTextModel" "patternOf" "[I" : Cond) ∈ ga_tbl := ga_m (List.mem_of_getElem? (i := 621) (by decide +kernel)) rfl
theorem kw_622 : (Cond.soleField "PatternTextModel" "patternOf" : Cond) ∈ ga_tbl := ga_m (List.mem_of_getElem? (i := 622) (by decide +kernel)) rfl
theorem kw_623 : (Cond.laysFinal "PatternTextModel" "PatternTextModel" "came" "[I" : Cond) ∈ ga_tbl := ga_m (List.mem_of_getElem? (i := 623) (by decide +kernel)) rfl
theorem kw_624 : (Cond.soleField "PatternTextModel" "came" : Cond) ∈ ga_tbl := ga_m (List.mem_of_getElem? (i := 624) (by decide +kernel)) rfl
theorem kw_625 : (Cond.lays "PatternTextModel" "PatternTextModel" "issues" "I" : Cond) ∈ ga_tbl := ga_m (List.mem_of_getElem? (i := 625) (by decide +kernel)) rfl
theorem kw_626 : (Cond.soleField "PatternTextModel" "issues" : Cond) ∈ ga_tbl := ga_m (List.mem_of_getElem? (i := 626) (by decide +kernel)) rfl
theorem kw_627 : (Cond.laysFinal "PatternTextModel" "PatternTextModel" "printed" "[B" : Cond) ∈ ga_tbl := ga_m (List.mem_of_getElem? (i := 627) (by decide +kernel)) rfl
theorem kw_628 : (Cond.soleField "PatternTextModel" "printed" : Cond) ∈ ga_tbl := ga_m (List.mem_of_getElem? (i := 628) (by decide +kernel)) rfl
theorem kw_629 : (Cond.lays "PatternTextModel" "PatternTextModel" "printedSize" "I" : Cond) ∈ ga_tbl := ga_m (List.mem_of_getElem? (i := 629) (by decide +kernel)) rfl
theorem kw_630 : (Cond.soleField "PatternTextModel" "printedSize" : Cond) ∈ ga_tbl := ga_m (List.mem_of_getElem? (i := 630) (by decide +kernel)) rfl
theorem kw_631 : (Cond.superclass "PatternTextModel" "java/lang/Object" : Cond) ∈ ga_tbl := ga_m (List.mem_of_getElem? (i := 631) (by decide +kernel)) rfl
theorem kw_632 : (Cond.arrayClass .boolean : Cond) ∈ ga_tbl := ga_m (List.mem_of_getElem? (i := 632) (by decide +kernel)) rfl
theorem kw_633 : (Cond.methodLink "PatternTextLaw" 82 ⟨"PatternTextModel", "thrown", "()I"⟩ : Cond) ∈ ga_tbl := ga_m (List.mem_of_getElem? (i := 633) (by decide +kernel)) rfl
theorem kw_634 : (Cond.instanceMethod ⟨"PatternTextModel", "thrown", "()I"⟩ : Cond) ∈ ga_tbl := ga_m (List.mem_of_getElem? (i := 634) (by decide +kernel)) rfl
theorem kw_635 : (Cond.selects "PatternTextModel" ⟨"PatternTextModel", "thrown", "()I"⟩ ⟨"PatternTextModel", "thrown", "()I"⟩ : Cond) ∈ ga_tbl := ga_m (List.mem_of_getElem? (i := 635) (by decide +kernel)) rfl
theorem kw_636 : (Cond.code ⟨"PatternTextModel", "thrown", "()I"⟩ prog_7_method_2_code 1 (some .int) : Cond) ∈ ga_tbl := ga_m (List.mem_of_getElem? (i := 636) (by decide +kernel)) rfl
theorem kw_637 : (Cond.methodLink "PatternTextLaw" 23 ⟨"PatternTextModel", "sign", "(I)V"⟩ : Cond) ∈ ga_tbl := ga_m (List.mem_of_getElem? (i := 637) (by decide +kernel)) rfl
theorem kw_638 : (Cond.instanceMethod ⟨"PatternTextModel", "sign", "(I)V"⟩ : Cond) ∈ ga_tbl := ga_m (List.mem_of_getElem? (i := 638) (by decide +kernel)) rfl
theorem kw_639 : (Cond.selects "PatternTextModel" ⟨"PatternTextModel", "sign", "(I)V"⟩ ⟨"PatternTextModel", "sign", "(I)V"⟩ : Cond) ∈ ga_tbl := ga_m (List.mem_of_getElem? (i := 639) (by decide +kernel)) rfl
theorem kw_640 : (Cond.code ⟨"PatternTextModel", "sign", "(I)V"⟩ prog_7_method_3_code 2 none : Cond) ∈ ga_tbl := ga_m (List.mem_of_getElem? (i := 640) (by decide +kernel)) rfl
theorem kw_641 : (Cond.methodLink "PatternTextLaw" 28 ⟨"PatternTextModel", "read", "()I"⟩ : Cond) ∈ ga_tbl := ga_m (List.mem_of_getElem? (i := 641) (by decide +kernel)) rfl
theorem kw_642 : (Cond.instanceMethod ⟨"PatternTextModel", "read", "()I"⟩ : Cond) ∈ ga_tbl := ga_m (List.mem_of_getElem? (i := 642) (by decide +kernel)) rfl
theorem kw_643 : (Cond.selects "PatternTextModel" ⟨"PatternTextModel", "read", "()I"⟩ ⟨"PatternTextModel", "read", "()I"⟩ : Cond) ∈ ga_tbl := ga_m (List.mem_of_getElem? (i := 643) (by decide +kernel)) rfl
theorem kw_644 : (Cond.code ⟨"PatternTextModel", "read", "()I"⟩ prog_7_method_15_code 4 (some .int) : Cond) ∈ ga_tbl := ga_m (List.mem_of_getElem? (i := 644) (by decide +kernel)) rfl
theorem kw_645 : (Cond.methodLink "PatternTextModel" 133 ⟨"PatternTextModel", "reads", "(I)Z"⟩ : Cond) ∈ ga_tbl := ga_m (List.mem_of_getElem? (i := 645) (by decide +kernel)) rfl
theorem kl_646 : (Cond.privateMethod ⟨"PatternTextModel", "reads", "(I)Z"⟩ : Cond) ∈ lw_tbl := List.mem_of_getElem? (i := 646) (by decide +kernel)
theorem kw_647 : (Cond.instanceMethod ⟨"PatternTextModel", "reads", "(I)Z"⟩ : Cond) ∈ ga_tbl := ga_m (List.mem_of_getElem? (i := 647) (by decide +kernel)) rfl
theorem kw_648 : (Cond.code ⟨"PatternTextModel", "reads", "(I)Z"⟩ prog_7_method_14_code 7 (some .boolean) : Cond) ∈ ga_tbl := ga_m (List.mem_of_getElem? (i := 648) (by decide +kernel)) rfl
theorem kw_649 : (Cond.methodLink "PatternTextModel" 116 ⟨"PatternTextModel", "every", "(I)Z"⟩ : Cond) ∈ ga_tbl := ga_m (List.mem_of_getElem? (i := 649) (by decide +kernel)) rfl
theorem kl_650 : (Cond.privateMethod ⟨"PatternTextModel", "every", "(I)Z"⟩ : Cond) ∈ lw_tbl := List.mem_of_getElem? (i := 650) (by decide +kernel)
theorem kw_651 : (Cond.instanceMethod ⟨"PatternTextModel", "every", "(I)Z"⟩ : Cond) ∈ ga_tbl := ga_m (List.mem_of_getElem? (i := 651) (by decide +kernel)) rfl
theorem kw_652 : (Cond.code ⟨"PatternTextModel", "every", "(I)Z"⟩ prog_7_method_12_code 6 (some .boolean) : Cond) ∈ ga_tbl := ga_m (List.mem_of_getElem? (i := 652) (by decide +kernel)) rfl
theorem kw_653 : (Cond.methodLink "PatternTextModel" 93 ⟨"PatternTextModel", "word", "()J"⟩ : Cond) ∈ ga_tbl := ga_m (List.mem_of_getElem? (i := 653) (by decide +kernel)) rfl
theorem kl_654 : (Cond.privateMethod ⟨"PatternTextModel", "word", "()J"⟩ : Cond) ∈ lw_tbl := List.mem_of_getElem? (i := 654) (by decide +kernel)
theorem kw_655 : (Cond.instanceMethod ⟨"PatternTextModel", "word", "()J"⟩ : Cond) ∈ ga_tbl := ga_m (List.mem_of_getElem? (i := 655) (by decide +kernel)) rfl
theorem kw_656 : (Cond.code ⟨"PatternTextModel", "word", "()J"⟩ prog_7_method_9_code 4 (some .long) : Cond) ∈ ga_tbl := ga_m (List.mem_of_getElem? (i := 656) (by decide +kernel)) rfl
theorem kw_657 : (Cond.methodLink "PatternTextModel" 73 ⟨"PatternTextModel", "look", "(I)I"⟩ : Cond) ∈ ga_tbl := ga_m (List.mem_of_getElem? (i := 657) (by decide +kernel)) rfl
theorem kl_658 : (Cond.privateMethod ⟨"PatternTextModel", "look", "(I)I"⟩ : Cond) ∈ lw_tbl := List.mem_of_getElem? (i := 658) (by decide +kernel)
theorem kw_659 : (Cond.instanceMethod ⟨"PatternTextModel", "look", "(I)I"⟩ : Cond) ∈ ga_tbl := ga_m (List.mem_of_getElem? (i := 659) (by decide +kernel)) rfl
theorem kw_660 : (Cond.code ⟨"PatternTextModel", "look", "(I)I"⟩ prog_7_method_4_code 2 (some .int) : Cond) ∈ ga_tbl := ga_m (List.mem_of_getElem? (i := 660) (by decide +kernel)) rfl
theorem kw_661 : (Cond.methodLink "PatternTextModel" 81 ⟨"PatternTextModel", "isLetter", "(I)Z"⟩ : Cond) ∈ ga_tbl := ga_m (List.mem_of_getElem? (i := 661) (by decide +kernel)) rfl
theorem kw_662 : (Cond.static ⟨"PatternTextModel", "isLetter", "(I)Z"⟩ : Cond) ∈ ga_tbl := ga_m (List.mem_of_getElem? (i := 662) (by decide +kernel)) rfl
theorem kw_663 : (Cond.code ⟨"PatternTextModel", "isLetter", "(I)Z"⟩ prog_7_method_7_code 1 (some .boolean) : Cond) ∈ ga_tbl := ga_m (List.mem_of_getElem? (i := 663) (by decide +kernel)) rfl
theorem kw_664 : (Cond.constantLong "PatternTextModel" 84 (-1) : Cond) ∈ ga_tbl := ga_m (List.mem_of_getElem? (i := 664) (by decide +kernel)) rfl
theorem kw_665 : (Cond.constantLong "PatternTextModel" 86 32 : Cond) ∈ ga_tbl := ga_m (List.mem_of_getElem? (i := 665) (by decide +kernel)) rfl
theorem kw_666 : (Cond.constantLong "PatternTextModel" 88 96 : Cond) ∈ ga_tbl := ga_m (List.mem_of_getElem? (i := 666) (by decide +kernel)) rfl
theorem kw_667 : (Cond.constantLong "PatternTextModel" 97 5969497 : Cond) ∈ ga_tbl := ga_m (List.mem_of_getElem? (i := 667) (by decide +kernel)) rfl
theorem kw_668 : (Cond.methodLink "PatternTextModel" 77 ⟨"PatternTextModel", "bad", "(I)Z"⟩ : Cond) ∈ ga_tbl := ga_m (List.mem_of_getElem? (i := 668) (by decide +kernel)) rfl
theorem kl_669 : (Cond.privateMethod ⟨"PatternTextModel", "bad", "(I)Z"⟩ : Cond) ∈ lw_tbl := List.mem_of_getElem? (i := 669) (by decide +kernel)
theorem kw_670 : (Cond.instanceMethod ⟨"PatternTextModel", "bad", "(I)Z"⟩ : Cond) ∈ ga_tbl := ga_m (List.mem_of_getElem? (i := 670) (by decide +kernel)) rfl
theorem kw_671 : (Cond.code ⟨"PatternTextModel", "bad", "(I)Z"⟩ prog_7_method_5_code 2 (some .boolean) : Cond) ∈ ga_tbl := ga_m (List.mem_of_getElem? (i := 671) (by decide +kernel)) rfl
theorem kw_672 : (Cond.methodLink "PatternTextModel" 99 ⟨"PatternTextModel", "pass", "()V"⟩ : Cond) ∈ ga_tbl := ga_m (List.mem_of_getElem? (i := 672) (by decide +kernel)) rfl
theorem kl_673 : (Cond.privateMethod ⟨"PatternTextModel", "pass", "()V"⟩ : Cond) ∈ lw_tbl := List.mem_of_getElem? (i := 673) (by decide +kernel)
theorem kw_674 : (Cond.instanceMethod ⟨"PatternTextModel", "pass", "()V"⟩ : Cond) ∈ ga_tbl := ga_m (List.mem_of_getElem? (i := 674) (by decide +kernel)) rfl
theorem kw_675 : (Cond.code ⟨"PatternTextModel", "pass", "()V"⟩ prog_7_method_10_code 1 none : Cond) ∈ ga_tbl := ga_m (List.mem_of_getElem? (i := 675) (by decide +kernel)) rfl
theorem kw_676 : (Cond.methodLink "PatternTextModel" 102 ⟨"PatternTextModel", "space", "()Z"⟩ : Cond) ∈ ga_tbl := ga_m (List.mem_of_getElem? (i := 676) (by decide +kernel)) rfl
theorem kl_677 : (Cond.privateMethod ⟨"PatternTextModel", "space", "()Z"⟩ : Cond) ∈ lw_tbl := List.mem_of_getElem? (i := 677) (by decide +kernel)
theorem kw_678 : (Cond.instanceMethod ⟨"PatternTextModel", "space", "()Z"⟩ : Cond) ∈ ga_tbl := ga_m (List.mem_of_getElem? (i := 678) (by decide +kernel)) rfl
theorem kw_679 : (Cond.code ⟨"PatternTextModel", "space", "()Z"⟩ prog_7_method_8_code 1 (some .boolean) : Cond) ∈ ga_tbl := ga_m (List.mem_of_getElem? (i := 679) (by decide +kernel)) rfl
theorem kw_680 : (Cond.methodLink "PatternTextModel" 106 ⟨"PatternTextModel", "number", "(II)I"⟩ : Cond) ∈ ga_tbl := ga_m (List.mem_of_getElem? (i := 680) (by decide +kernel)) rfl
theorem kl_681 : (Cond.privateMethod ⟨"PatternTextModel", "number", "(II)I"⟩ : Cond) ∈ lw_tbl := List.mem_of_getElem? (i := 681) (by decide +kernel)
theorem kw_682 : (Cond.instanceMethod ⟨"PatternTextModel", "number", "(II)I"⟩ : Cond) ∈ ga_tbl := ga_m (List.mem_of_getElem? (i := 682) (by decide +kernel)) rfl
theorem kw_683 : (Cond.code ⟨"PatternTextModel", "number", "(II)I"⟩ prog_7_method_11_code 6 (some .int) : Cond) ∈ ga_tbl := ga_m (List.mem_of_getElem? (i := 683) (by decide +kernel)) rfl
theorem kw_684 : (Cond.methodLink "PatternTextModel" 90 ⟨"PatternTextModel", "isDigit", "(I)Z"⟩ : Cond) ∈ ga_tbl := ga_m (List.mem_of_getElem? (i := 684) (by decide +kernel)) rfl
theorem kw_685 : (Cond.static ⟨"PatternTextModel", "isDigit", "(I)Z"⟩ : Cond) ∈ ga_tbl := ga_m (List.mem_of_getElem? (i := 685) (by decide +kernel)) rfl
theorem kw_686 : (Cond.code ⟨"PatternTextModel", "isDigit", "(I)Z"⟩ prog_7_method_6_code 1 (some .boolean) : Cond) ∈ ga_tbl := ga_m (List.mem_of_getElem? (i := 686) (by decide +kernel)) rfl
theorem kw_687 : (Cond.constantLong "PatternTextModel" 110 132915 : Cond) ∈ ga_tbl := ga_m (List.mem_of_getElem? (i := 687) (by decide +kernel)) rfl
theorem kw_688 : (Cond.constantLong "PatternTextModel" 112 24286579 : Cond) ∈ ga_tbl := ga_m (List.mem_of_getElem? (i := 688) (by decide +kernel)) rfl
theorem kw_689 : (Cond.constantLong "PatternTextModel" 114 452415763 : Cond) ∈ ga_tbl := ga_m (List.mem_of_getElem? (i := 689) (by decide +kernel)) rfl
theorem kw_690 : (Cond.constantLong "PatternTextModel" 119 634160 : Cond) ∈ ga_tbl := ga_m (List.mem_of_getElem? (i := 690) (by decide +kernel)) rfl
theorem kw_691 : (Cond.constantLong "PatternTextModel" 121 351582372 : Cond) ∈ ga_tbl := ga_m (List.mem_of_getElem? (i := 691) (by decide +kernel)) rfl
theorem kw_692 : (Cond.constantLong "PatternTextModel" 123 754341285 : Cond) ∈ ga_tbl := ga_m (List.mem_of_getElem? (i := 692) (by decide +kernel)) rfl
theorem kw_693 : (Cond.constantLong "PatternTextModel" 125 19515704916 : Cond) ∈ ga_tbl := ga_m (List.mem_of_getElem? (i := 693) (by decide +kernel)) rfl
theorem kw_694 : (Cond.methodLink "PatternTextModel" 127 ⟨"PatternTextModel", "skip", "(I)Z"⟩ : Cond) ∈ ga_tbl := ga_m (List.mem_of_getElem? (i := 694) (by decide +kernel)) rfl
theorem kl_695 : (Cond.privateMethod ⟨"PatternTextModel", "skip", "(I)Z"⟩ : Cond) ∈ lw_tbl := List.mem_of_getElem? (i := 695) (by decide +kernel)
theorem kw_696 : (Cond.instanceMethod ⟨"PatternTextModel", "skip", "(I)Z"⟩ : Cond) ∈ ga_tbl := ga_m (List.mem_of_getElem? (i := 696) (by decide +kernel)) rfl
theorem kw_697 : (Cond.code ⟨"PatternTextModel", "skip", "(I)Z"⟩ prog_7_method_13_code 6 (some .boolean) : Cond) ∈ ga_tbl := ga_m (List.mem_of_getElem? (i := 697) (by decide +kernel)) rfl
theorem kw_698 : (Cond.methodLink "PatternTextLaw" 55 ⟨"PatternTextModel", "holiday", "(I)I"⟩ : Cond) ∈ ga_tbl := ga_m (List.mem_of_getElem? (i := 698) (by decide +kernel)) rfl
theorem kw_699 : (Cond.instanceMethod ⟨"PatternTextModel", "holiday", "(I)I"⟩ : Cond) ∈ ga_tbl := ga_m (List.mem_of_getElem? (i := 699) (by decide +kernel)) rfl
theorem kw_700 : (Cond.selects "PatternTextModel" ⟨"PatternTextModel", "holiday", "(I)I"⟩ ⟨"PatternTextModel", "holiday", "(I)I"⟩ : Cond) ∈ ga_tbl := ga_m (List.mem_of_getElem? (i := 700) (by decide +kernel)) rfl
theorem kw_701 : (Cond.code ⟨"PatternTextModel", "holiday", "(I)I"⟩ prog_7_method_19_code 2 (some .int) : Cond) ∈ ga_tbl := ga_m (List.mem_of_getElem? (i := 701) (by decide +kernel)) rfl
theorem kw_702 : (Cond.methodLink "PatternTextModel" 140 ⟨"PatternTextModel", "isDay", "(I)Z"⟩ : Cond) ∈ ga_tbl := ga_m (List.mem_of_getElem? (i := 702) (by decide +kernel)) rfl
theorem kw_703 : (Cond.static ⟨"PatternTextModel", "isDay", "(I)Z"⟩ : Cond) ∈ ga_tbl := ga_m (List.mem_of_getElem? (i := 703) (by decide +kernel)) rfl
theorem kw_704 : (Cond.code ⟨"PatternTextModel", "isDay", "(I)Z"⟩ prog_7_method_17_code 1 (some .boolean) : Cond) ∈ ga_tbl := ga_m (List.mem_of_getElem? (i := 704) (by decide +kernel)) rfl
theorem kw_705 : (Cond.constant "PatternTextModel" 136 1000000 : Cond) ∈ ga_tbl := ga_m (List.mem_of_getElem? (i := 705) (by decide +kernel)) rfl
theorem kw_706 : (Cond.methodLink "PatternTextModel" 143 ⟨"PatternTextModel", "isHoliday", "(I)Z"⟩ : Cond) ∈ ga_tbl := ga_m (List.mem_of_getElem? (i := 706) (by decide +kernel)) rfl
theorem kl_707 : (Cond.privateMethod ⟨"PatternTextModel", "isHoliday", "(I)Z"⟩ : Cond) ∈ lw_tbl := List.mem_of_getElem? (i := 707) (by decide +kernel)
theorem kw_708 : (Cond.instanceMethod ⟨"PatternTextModel", "isHoliday", "(I)Z"⟩ : Cond) ∈ ga_tbl := ga_m (List.mem_of_getElem? (i := 708) (by decide +kernel)) rfl
theorem kw_709 : (Cond.code ⟨"PatternTextModel", "isHoliday", "(I)Z"⟩ prog_7_method_18_code 4 (some .boolean) : Cond) ∈ ga_tbl := ga_m (List.mem_of_getElem? (i := 709) (by decide +kernel)) rfl
theorem kw_710 : (Cond.methodLink "PatternTextLaw" 32 ⟨"PatternTextModel", "foretell", "(III)I"⟩ : Cond) ∈ ga_tbl := ga_m (List.mem_of_getElem? (i := 710) (by decide +kernel)) rfl
theorem kw_711 : (Cond.instanceMethod ⟨"PatternTextModel", "foretell", "(III)I"⟩ : Cond) ∈ ga_tbl := ga_m (List.mem_of_getElem? (i := 711) (by decide +kernel)) rfl
theorem kw_712 : (Cond.selects "PatternTextModel" ⟨"PatternTextModel", "foretell", "(III)I"⟩ ⟨"PatternTextModel", "foretell", "(III)I"⟩ : Cond) ∈ ga_tbl := ga_m (List.mem_of_getElem? (i := 712) (by decide +kernel)) rfl
theorem kw_713 : (Cond.code ⟨"PatternTextModel", "foretell", "(III)I"⟩ prog_7_method_22_code 4 (some .int) : Cond) ∈ ga_tbl := ga_m (List.mem_of_getElem? (i := 713) (by decide +kernel)) rfl
theorem kw_714 : (Cond.methodLink "PatternTextModel" 153 ⟨"PatternTextModel", "isPattern", "(I)Z"⟩ : Cond) ∈ ga_tbl := ga_m (List.mem_of_getElem? (i := 714) (by decide +kernel)) rfl
theorem kl_715 : (Cond.privateMethod ⟨"PatternTextModel", "isPattern", "(I)Z"⟩ : Cond) ∈ lw_tbl := List.mem_of_getElem? (i := 715) (by decide +kernel)
theorem kw_716 : (Cond.instanceMethod ⟨"PatternTextModel", "isPattern", "(I)Z"⟩ : Cond) ∈ ga_tbl := ga_m (List.mem_of_getElem? (i := 716) (by decide +kernel)) rfl
theorem kw_717 : (Cond.code ⟨"PatternTextModel", "isPattern", "(I)Z"⟩ prog_7_method_16_code 2 (some .boolean) : Cond) ∈ ga_tbl := ga_m (List.mem_of_getElem? (i := 717) (by decide +kernel)) rfl
theorem kw_718 : (Cond.methodLink "PatternTextModel" 156 ⟨"PatternTextModel", "go", "(IIII)V"⟩ : Cond) ∈ ga_tbl := ga_m (List.mem_of_getElem? (i := 718) (by decide +kernel)) rfl
theorem kl_719 : (Cond.privateMethod ⟨"PatternTextModel", "go", "(IIII)V"⟩ : Cond) ∈ lw_tbl := List.mem_of_getElem? (i := 719) (by decide +kernel)
theorem kw_720 : (Cond.instanceMethod ⟨"PatternTextModel", "go", "(IIII)V"⟩ : Cond) ∈ ga_tbl := ga_m (List.mem_of_getElem? (i := 720) (by decide +kernel)) rfl
theorem kw_721 : (Cond.code ⟨"PatternTextModel", "go", "(IIII)V"⟩ prog_7_method_21_code 11 none : Cond) ∈ ga_tbl := ga_m (List.mem_of_getElem? (i := 721) (by decide +kernel)) rfl
theorem kw_722 : (Cond.methodLink "PatternTextModel" 146 ⟨"PatternTextModel", "has", "(II)Z"⟩ : Cond) ∈ ga_tbl := ga_m (List.mem_of_getElem? (i := 722) (by decide +kernel)) rfl
theorem kl_723 : (Cond.privateMethod ⟨"PatternTextModel", "has", "(II)Z"⟩ : Cond) ∈ lw_tbl := List.mem_of_getElem? (i := 723) (by decide +kernel)
theorem kw_724 : (Cond.instanceMethod ⟨"PatternTextModel", "has", "(II)Z"⟩ : Cond) ∈ ga_tbl := ga_m (List.mem_of_getElem? (i := 724) (by decide +kernel)) rfl
theorem kw_725 : (Cond.code ⟨"PatternTextModel", "has", "(II)Z"⟩ prog_7_method_20_code 3 (some .boolean) : Cond) ∈ ga_tbl := ga_m (List.mem_of_getElem? (i := 725) (by decide +kernel)) rfl
theorem kw_726 : (Cond.methodLink "PatternTextLaw" 37 ⟨"PatternTextModel", "changed", "(II)I"⟩ : Cond) ∈ ga_tbl := ga_m (List.mem_of_getElem? (i := 726) (by decide +kernel)) rfl
theorem kw_727 : (Cond.instanceMethod ⟨"PatternTextModel", "changed", "(II)I"⟩ : Cond) ∈ ga_tbl := ga_m (List.mem_of_getElem? (i := 727) (by decide +kernel)) rfl
theorem kw_728 : (Cond.selects "PatternTextModel" ⟨"PatternTextModel", "changed", "(II)I"⟩ ⟨"PatternTextModel", "changed", "(II)I"⟩ : Cond) ∈ ga_tbl := ga_m (List.mem_of_getElem? (i := 728) (by decide +kernel)) rfl
theorem kw_729 : (Cond.code ⟨"PatternTextModel", "changed", "(II)I"⟩ prog_7_method_23_code 5 (some .int) : Cond) ∈ ga_tbl := ga_m (List.mem_of_getElem? (i := 729) (by decide +kernel)) rfl
theorem kw_730 : (Cond.methodLink "PatternTextLaw" 41 ⟨"PatternTextModel", "issue", "(II)I"⟩ : Cond) ∈ ga_tbl := ga_m (List.mem_of_getElem? (i := 730) (by decide +kernel)) rfl
theorem kw_731 : (Cond.instanceMethod ⟨"PatternTextModel", "issue", "(II)I"⟩ : Cond) ∈ ga_tbl := ga_m (List.mem_of_getElem? (i := 731) (by decide +kernel)) rfl
theorem kw_732 : (Cond.selects "PatternTextModel" ⟨"PatternTextModel", "issue", "(II)I"⟩ ⟨"PatternTextModel", "issue", "(II)I"⟩ : Cond) ∈ ga_tbl := ga_m (List.mem_of_getElem? (i := 732) (by decide +kernel)) rfl
theorem kw_733 : (Cond.code ⟨"PatternTextModel", "issue", "(II)I"⟩ prog_7_method_26_code 4 (some .int) : Cond) ∈ ga_tbl := ga_m (List.mem_of_getElem? (i := 733) (by decide +kernel)) rfl
theorem kw_734 : (Cond.methodLink "PatternTextModel" 160 ⟨"PatternTextModel", "isIssue", "(I)Z"⟩ : Cond) ∈ ga_tbl := ga_m (List.mem_of_getElem? (i := 734) (by decide +kernel)) rfl
theorem kl_735 : (Cond.privateMethod ⟨"PatternTextModel", "isIssue", "(I)Z"⟩ : Cond) ∈ lw_tbl := List.mem_of_getElem? (i := 735) (by decide +kernel)
theorem kw_736 : (Cond.instanceMethod ⟨"PatternTextModel", "isIssue", "(I)Z"⟩ : Cond) ∈ ga_tbl := ga_m (List.mem_of_getElem? (i := 736) (by decide +kernel)) rfl
theorem kw_737 : (Cond.code ⟨"PatternTextModel", "isIssue", "(I)Z"⟩ prog_7_method_24_code 2 (some .boolean) : Cond) ∈ ga_tbl := ga_m (List.mem_of_getElem? (i := 737) (by decide +kernel)) rfl
theorem kw_738 : (Cond.methodLink "PatternTextModel" 163 ⟨"PatternTextModel", "told", "(II)I"⟩ : Cond) ∈ ga_tbl := ga_m (List.mem_of_getElem? (i := 738) (by decide +kernel)) rfl
theorem kl_739 : (Cond.privateMethod ⟨"PatternTextModel", "told", "(II)I"⟩ : Cond) ∈ lw_tbl := List.mem_of_getElem? (i := 739) (by decide +kernel)
theorem kw_740 : (Cond.instanceMethod ⟨"PatternTextModel", "told", "(II)I"⟩ : Cond) ∈ ga_tbl := ga_m (List.mem_of_getElem? (i := 740) (by decide +kernel)) rfl
theorem kw_741 : (Cond.code ⟨"PatternTextModel", "told", "(II)I"⟩ prog_7_method_25_code 3 (some .int) : Cond) ∈ ga_tbl := ga_m (List.mem_of_getElem? (i := 741) (by decide +kernel)) rfl
theorem kw_742 : (Cond.methodLink "PatternTextLaw" 46 ⟨"PatternTextModel", "date", "(I)J"⟩ : Cond) ∈ ga_tbl := ga_m (List.mem_of_getElem? (i := 742) (by decide +kernel)) rfl
theorem kw_743 : (Cond.instanceMethod ⟨"PatternTextModel", "date", "(I)J"⟩ : Cond) ∈ ga_tbl := ga_m (List.mem_of_getElem? (i := 743) (by decide +kernel)) rfl
theorem kw_744 : (Cond.selects "PatternTextModel" ⟨"PatternTextModel", "date", "(I)J"⟩ ⟨"PatternTextModel", "date", "(I)J"⟩ : Cond) ∈ ga_tbl := ga_m (List.mem_of_getElem? (i := 744) (by decide +kernel)) rfl
theorem kw_745 : (Cond.code ⟨"PatternTextModel", "date", "(I)J"⟩ prog_7_method_27_code 2 (some .long) : Cond) ∈ ga_tbl := ga_m (List.mem_of_getElem? (i := 745) (by decide +kernel)) rfl
theorem kw_746 : (Cond.methodLink "PatternTextLaw" 50 ⟨"PatternTextModel", "irregular", "(II)I"⟩ : Cond) ∈ ga_tbl := ga_m (List.mem_of_getElem? (i := 746) (by decide +kernel)) rfl
theorem kw_747 : (Cond.instanceMethod ⟨"PatternTextModel", "irregular", "(II)I"⟩ : Cond) ∈ ga_tbl := ga_m (List.mem_of_getElem? (i := 747) (by decide +kernel)) rfl
theorem kw_748 : (Cond.selects "PatternTextModel" ⟨"PatternTextModel", "irregular", "(II)I"⟩ ⟨"PatternTextModel", "irregular", "(II)I"⟩ : Cond) ∈ ga_tbl := ga_m (List.mem_of_getElem? (i := 748) (by decide +kernel)) rfl
theorem kw_749 : (Cond.code ⟨"PatternTextModel", "irregular", "(II)I"⟩ prog_7_method_28_code 3 (some .int) : Cond) ∈ ga_tbl := ga_m (List.mem_of_getElem? (i := 749) (by decide +kernel)) rfl
theorem kw_750 : (Cond.methodLink "PatternTextLaw" 59 ⟨"PatternTextModel", "came", "(II)I"⟩ : Cond) ∈ ga_tbl := ga_m (List.mem_of_getElem? (i := 750) (by decide +kernel)) rfl
theorem kw_751 : (Cond.instanceMethod ⟨"PatternTextModel", "came", "(II)I"⟩ : Cond) ∈ ga_tbl := ga_m (List.mem_of_getElem? (i := 751) (by decide +kernel)) rfl
theorem kw_752 : (Cond.selects "PatternTextModel" ⟨"PatternTextModel", "came", "(II)I"⟩ ⟨"PatternTextModel", "came", "(II)I"⟩ : Cond) ∈ ga_tbl := ga_m (List.mem_of_getElem? (i := 752) (by decide +kernel)) rfl
theorem kw_753 : (Cond.code ⟨"PatternTextModel", "came", "(II)I"⟩ prog_7_method_29_code 3 (some .int) : Cond) ∈ ga_tbl := ga_m (List.mem_of_getElem? (i := 753) (by decide +kernel)) rfl
theorem kw_754 : (Cond.methodLink "PatternTextLaw" 63 ⟨"PatternTextModel", "late", "(II)I"⟩ : Cond) ∈ ga_tbl := ga_m (List.mem_of_getElem? (i := 754) (by decide +kernel)) rfl
theorem kw_755 : (Cond.instanceMethod ⟨"PatternTextModel", "late", "(II)I"⟩ : Cond) ∈ ga_tbl := ga_m (List.mem_of_getElem? (i := 755) (by decide +kernel)) rfl
theorem kw_756 : (Cond.selects "PatternTextModel" ⟨"PatternTextModel", "late", "(II)I"⟩ ⟨"PatternTextModel", "late", "(II)I"⟩ : Cond) ∈ ga_tbl := ga_m (List.mem_of_getElem? (i := 756) (by decide +kernel)) rfl
theorem kw_757 : (Cond.code ⟨"PatternTextModel", "late", "(II)I"⟩ prog_7_method_31_code 3 (some .int) : Cond) ∈ ga_tbl := ga_m (List.mem_of_getElem? (i := 757) (by decide +kernel)) rfl
theorem kw_758 : (Cond.methodLink "PatternTextModel" 166 ⟨"PatternTextModel", "lateOn", "(II)I"⟩ : Cond) ∈ ga_tbl := ga_m (List.mem_of_getElem? (i := 758) (by decide +kernel)) rfl
theorem kl_759 : (Cond.privateMethod ⟨"PatternTextModel", "lateOn", "(II)I"⟩ : Cond) ∈ lw_tbl := List.mem_of_getElem? (i := 759) (by decide +kernel)
theorem kw_760 : (Cond.instanceMethod ⟨"PatternTextModel", "lateOn", "(II)I"⟩ : Cond) ∈ ga_tbl := ga_m (List.mem_of_getElem? (i := 760) (by decide +kernel)) rfl
theorem kw_761 : (Cond.code ⟨"PatternTextModel", "lateOn", "(II)I"⟩ prog_7_method_30_code 4 (some .int) : Cond) ∈ ga_tbl := ga_m (List.mem_of_getElem? (i := 761) (by decide +kernel)) rfl
theorem kw_762 : (Cond.methodLink "PatternTextLaw" 67 ⟨"PatternTextModel", "claim", "(II)I"⟩ : Cond) ∈ ga_tbl := ga_m (List.mem_of_getElem? (i := 762) (by decide +kernel)) rfl
theorem kw_763 : (Cond.instanceMethod ⟨"PatternTextModel", "claim", "(II)I"⟩ : Cond) ∈ ga_tbl := ga_m (List.mem_of_getElem? (i := 763) (by decide +kernel)) rfl
theorem kw_764 : (Cond.selects "PatternTextModel" ⟨"PatternTextModel", "claim", "(II)I"⟩ ⟨"PatternTextModel", "claim", "(II)I"⟩ : Cond) ∈ ga_tbl := ga_m (List.mem_of_getElem? (i := 764) (by decide +kernel)) rfl
theorem kw_765 : (Cond.code ⟨"PatternTextModel", "claim", "(II)I"⟩ prog_7_method_33_code 6 (some .int) : Cond) ∈ ga_tbl := ga_m (List.mem_of_getElem? (i := 765) (by decide +kernel)) rfl
theorem kw_766 : (Cond.methodLink "PatternTextModel" 169 ⟨"PatternTextModel", "isClaim", "(II)Z"⟩ : Cond) ∈ ga_tbl := ga_m (List.mem_of_getElem? (i := 766) (by decide +kernel)) rfl
theorem kl_767 : (Cond.privateMethod ⟨"PatternTextModel", "isClaim", "(II)Z"⟩ : Cond) ∈ lw_tbl := List.mem_of_getElem? (i := 767) (by decide +kernel)
theorem kw_768 : (Cond.instanceMethod ⟨"PatternTextModel", "isClaim", "(II)Z"⟩ : Cond) ∈ ga_tbl := ga_m (List.mem_of_getElem? (i := 768) (by decide +kernel)) rfl
theorem kw_769 : (Cond.code ⟨"PatternTextModel", "isClaim", "(II)Z"⟩ prog_7_method_32_code 3 (some .boolean) : Cond) ∈ ga_tbl := ga_m (List.mem_of_getElem? (i := 769) (by decide +kernel)) rfl
theorem kw_770 : (Cond.methodLink "PatternTextLaw" 71 ⟨"PatternTextModel", "print", "(I)I"⟩ : Cond) ∈ ga_tbl := ga_m (List.mem_of_getElem? (i := 770) (by decide +kernel)) rfl
theorem kw_771 : (Cond.instanceMethod ⟨"PatternTextModel", "print", "(I)I"⟩ : Cond) ∈ ga_tbl := ga_m (List.mem_of_getElem? (i := 771) (by decide +kernel)) rfl
theorem kw_772 : (Cond.selects "PatternTextModel" ⟨"PatternTextModel", "print", "(I)I"⟩ ⟨"PatternTextModel", "print", "(I)I"⟩ : Cond) ∈ ga_tbl := ga_m (List.mem_of_getElem? (i := 772) (by decide +kernel)) rfl
theorem kw_773 : (Cond.code ⟨"PatternTextModel", "print", "(I)I"⟩ prog_7_method_34_code 3 (some .int) : Cond) ∈ ga_tbl := ga_m (List.mem_of_getElem? (i := 773) (by decide +kernel)) rfl
theorem kw_774 : (Cond.methodLink "PatternTextLaw" 75 ⟨"PatternTextModel", "at", "(I)I"⟩ : Cond) ∈ ga_tbl := ga_m (List.mem_of_getElem? (i := 774) (by decide +kernel)) rfl
theorem kw_775 : (Cond.instanceMethod ⟨"PatternTextModel", "at", "(I)I"⟩ : Cond) ∈ ga_tbl := ga_m (List.mem_of_getElem? (i := 775) (by decide +kernel)) rfl
theorem kw_776 : (Cond.selects "PatternTextModel" ⟨"PatternTextModel", "at", "(I)I"⟩ ⟨"PatternTextModel", "at", "(I)I"⟩ : Cond) ∈ ga_tbl := ga_m (List.mem_of_getElem? (i := 776) (by decide +kernel)) rfl
theorem kw_777 : (Cond.code ⟨"PatternTextModel", "at", "(I)I"⟩ prog_7_method_35_code 2 (some .int) : Cond) ∈ ga_tbl := ga_m (List.mem_of_getElem? (i := 777) (by decide +kernel)) rfl
theorem kw_778 : (Cond.methodLink "PatternTextLaw" 81 ⟨"PatternTextModel", "yearly", "(III)I"⟩ : Cond) ∈ ga_tbl := ga_m (List.mem_of_getElem? (i := 778) (by decide +kernel)) rfl
theorem kw_779 : (Cond.instanceMethod ⟨"PatternTextModel", "yearly", "(III)I"⟩ : Cond) ∈ ga_tbl := ga_m (List.mem_of_getElem? (i := 779) (by decide +kernel)) rfl
theorem kw_780 : (Cond.selects "PatternTextModel" ⟨"PatternTextModel", "yearly", "(III)I"⟩ ⟨"PatternTextModel", "yearly", "(III)I"⟩ : Cond) ∈ ga_tbl := ga_m (List.mem_of_getElem? (i := 780) (by decide +kernel)) rfl
theorem kw_781 : (Cond.code ⟨"PatternTextModel", "yearly", "(III)I"⟩ prog_7_method_36_code 6 (some .int) : Cond) ∈ ga_tbl := ga_m (List.mem_of_getElem? (i := 781) (by decide +kernel)) rfl
theorem kw_782 : (Cond.arrayClass .long : Cond) ∈ ga_tbl := ga_m (List.mem_of_getElem? (i := 782) (by decide +kernel)) rfl
theorem kw_783 : (Cond.sameMethod "java/lang/Throwable" "java/lang/Throwable" "fillInStackTrace" "(I)Ljava/lang/Throwable;" : Cond) ∈ ga_tbl := ga_m (List.mem_of_getElem? (i := 783) (by decide +kernel)) rfl
theorem kw_784 : (Cond.fieldLink "java/lang/String" 9 "java/lang/String" "value" "[B" : Cond) ∈ ga_tbl := ga_m (List.mem_of_getElem? (i := 784) (by decide +kernel)) rfl
theorem kw_785 : (Cond.fieldLink "java/lang/String" 15 "java/lang/String" "coder" "B" : Cond) ∈ ga_tbl := ga_m (List.mem_of_getElem? (i := 785) (by decide +kernel)) rfl
end
section
/-! rows of my own over the kit's: numbers that are nI of a natural number, truth values, calls with explicit ends -/
def bo_I (b : Bool) : Int32 := if b then 1 else 0
theorem bo_I_f : bo_I false = 0 := rfl
theorem bo_I_t : bo_I true = 1 := rfl
theorem bo_I_0 {b : Bool} (h : bo_I b = 0) : b = false := by
  cases b with
  | false => rfl
  | true => exact absurd h (by decide)
theorem bo_I_1 {b : Bool} (h : ¬ bo_I b = 0) : b = true := by
  cases b with
  | false => exact absurd rfl h
  | true => rfl
abbrev wy_R (D : va_G) (cl : List vw_C) (ws : va_W) (tys : List (ClassId × FieldType)) (U : State) : Prop := va_P D cl ws U.heap ∧ va_K D cl tys U ∧ ga_N U
abbrev wy_M (D : va_G) (cl : List vw_C) (ws : va_W) (tys : List (ClassId × FieldType)) (sz : Nat) (U : State) : Prop := U.heap.size = sz ∧ va_P D cl ws U.heap ∧ va_K D cl tys U ∧ ga_N U ∧ va_D (fun _ => True) ws
abbrev wy_N (D : va_G) (cl : List vw_C) (tys : List (ClassId × FieldType)) (A : Nat → Prop) (w : va_W) (t : State) : Prop := va_P D cl w t.heap ∧ va_K D cl tys t ∧ va_D A w
theorem wy_R_blind {D : va_G} {cl : List vw_C} {ws : va_W} {tys : List (ClassId × FieldType)} {av : List Value} : FrameBlind (va_Pc av (wy_R D cl ws tys)) := fun a U g mk q => by
  obtain ⟨q0, qP, qK, qN⟩ := q
  exact ⟨q0, qP, va_K.moved (u := U) (U := U.calling g mk a) (Vm.Alike.refl U.vm) qK, ga_N.same (u := U) (U := U.calling g mk a) rfl qN⟩
theorem wy_M_blind {D : va_G} {cl : List vw_C} {ws : va_W} {tys : List (ClassId × FieldType)} {sz : Nat} {av : List Value} : FrameBlind (va_Pc av (wy_M D cl ws tys sz)) := fun a U g mk q => by
  obtain ⟨q0, q1, qP, qK, qN, qD⟩ := q
  exact ⟨q0, q1, qP, va_K.moved (u := U) (U := U.calling g mk a) (Vm.Alike.refl U.vm) qK, ga_N.same (u := U) (U := U.calling g mk a) rfl qN, qD⟩
section WY
variable {p : Program} {l : Launch} {e : Env} {R : Room} {s : State} {m : MethodId} {args : Array Value} {below : List Frame} {meth : Method} {c : Code} {H : Heap} {locs : List Loc} {cells slots : Nat} {Q : State → Prop}
variable {cc : ByteArray} {pc : Nat} {ls : Array Slot} {rest : List Value} {D : va_G} {cl : List vw_C} {A : Nat → Prop} {a : Nat} {tys : List (ClassId × FieldType)} {ws : va_W} {H0 : Heap}
theorem wy_preS {av : List Value} (hP : va_P D cl ws H) (hK : va_K D cl tys s) (hN : ga_N s) : PreS s H (va_Pc av (wy_R D cl ws tys)) av :=
  ⟨wy_R_blind, fun U hU hW => ⟨rfl, by rw [hU]; exact hP, va_K.moved hW.alike hK, hN.warm hW⟩⟩
theorem wy_preV {av : List Value} {C : String} {b ci : Nat} {q : vw_C} {fs : List Value} (q0 : Nat) (hP : va_P D cl ws H) (hK : va_K D cl tys s) (hN : ga_N s) (hc : cl[ci]? = some q) (hC : q.1 = C) (he : ws[q0]? = some (b, .inr (ci, fs))) : PreV s H C b (va_Pc (.ref b :: av) (wy_R D cl ws tys)) av :=
  ⟨wy_R_blind, by subst hC; exact va_recv hK hP hc he, fun U hU hW => ⟨rfl, by rw [hU]; exact hP, va_K.moved hW.alike hK, hN.warm hW⟩⟩
theorem wy_mreS {av : List Value} {B : Nat → Prop} (hP : va_P D cl ws H) (hK : va_K D cl tys s) (hN : ga_N s) (hD : va_D B ws) : PreS s H (va_Pc av (wy_M D cl ws tys H.size)) av :=
  ⟨wy_M_blind, fun U hU hW => ⟨rfl, by rw [hU], by rw [hU]; exact hP, va_K.moved hW.alike hK, hN.warm hW, hD.weaken (fun _ _ _ _ => trivial)⟩⟩
theorem wy_mreV {av : List Value} {B : Nat → Prop} {C : String} {b ci : Nat} {q : vw_C} {fs : List Value} (q0 : Nat) (hP : va_P D cl ws H) (hK : va_K D cl tys s) (hN : ga_N s) (hD : va_D B ws) (hc : cl[ci]? = some q) (hC : q.1 = C) (he : ws[q0]? = some (b, .inr (ci, fs))) : PreV s H C b (va_Pc (.ref b :: av) (wy_M D cl ws tys H.size)) av :=
  ⟨wy_M_blind, by subst hC; exact va_recv hK hP hc he, fun U hU hW => ⟨rfl, by rw [hU], by rw [hU]; exact hP, va_K.moved hW.alike hK, hN.warm hW, hD.weaken (fun _ _ _ _ => trivial)⟩⟩
theorem wy_cvi {x y : Int32} (h : x = y) (k : W p l e R s m args below meth c H locs cells slots Q (F0 m pc ls (.int y :: rest))) : W p l e R s m args below meth c H locs cells slots Q (F0 m pc ls (.int x :: rest)) := by rw [h]; exact k
theorem wy_ifeqB (hexec : p.tables.exec = Jvm.exec) (hb : c.code = cc) {b : Bool} {off : Int} {tgt : Nat} (hdg : decode cc pc = .ok (.ifCond .eq off, 3)) (ht : (pc : Int) + off = (tgt : Int))
    (kt : b = false → W p l e R s m args below meth c H locs cells slots Q (F0 m tgt ls rest)) (kf : b = true → W p l e R s m args below meth c H locs cells slots Q (F0 m (pc + 3) ls rest)) : W p l e R s m args below meth c H locs cells slots Q (F0 m pc ls (.int (bo_I b) :: rest)) :=
  lv_if_eq hexec hb hdg ht (fun h => kt (bo_I_0 h)) (fun h => kf (bo_I_1 h))
theorem wy_ifneB (hexec : p.tables.exec = Jvm.exec) (hb : c.code = cc) {b : Bool} {off : Int} {tgt : Nat} (hdg : decode cc pc = .ok (.ifCond .ne off, 3)) (ht : (pc : Int) + off = (tgt : Int))
    (kt : b = true → W p l e R s m args below meth c H locs cells slots Q (F0 m tgt ls rest)) (kf : b = false → W p l e R s m args below meth c H locs cells slots Q (F0 m (pc + 3) ls rest)) : W p l e R s m args below meth c H locs cells slots Q (F0 m pc ls (.int (bo_I b) :: rest)) :=
  lv_if_ne hexec hb hdg ht (fun h => kt (bo_I_1 h)) (fun h => kf (bo_I_0 h))
theorem wy_icmp_eq (hexec : p.tables.exec = Jvm.exec) (hb : c.code = cc) (x y : Nat) (hx : x < 2 ^ 31) (hy : y < 2 ^ 31) {off : Int} {tgt : Nat} (hdg : decode cc pc = .ok (.if_icmp .eq off, 3)) (ht : (pc : Int) + off = (tgt : Int))
    (kt : x = y → W p l e R s m args below meth c H locs cells slots Q (F0 m tgt ls rest)) (kf : ¬ x = y → W p l e R s m args below meth c H locs cells slots Q (F0 m (pc + 3) ls rest)) : W p l e R s m args below meth c H locs cells slots Q (F0 m pc ls (.int (nI y) :: .int (nI x) :: rest)) :=
  lv_icmp_eq hexec hb hdg ht (fun h => kt ((nI_eq hx hy).mp h)) (fun h => kf (fun z => h ((nI_eq hx hy).mpr z)))
theorem wy_icmp_ne (hexec : p.tables.exec = Jvm.exec) (hb : c.code = cc) (x y : Nat) (hx : x < 2 ^ 31) (hy : y < 2 ^ 31) {off : Int} {tgt : Nat} (hdg : decode cc pc = .ok (.if_icmp .ne off, 3)) (ht : (pc : Int) + off = (tgt : Int))
    (kt : ¬ x = y → W p l e R s m args below meth c H locs cells slots Q (F0 m tgt ls rest)) (kf : x = y → W p l e R s m args below meth c H locs cells slots Q (F0 m (pc + 3) ls rest)) : W p l e R s m args below meth c H locs cells slots Q (F0 m pc ls (.int (nI y) :: .int (nI x) :: rest)) :=
  lv_icmp_ne hexec hb hdg ht (fun h => kt (fun z => h ((nI_eq hx hy).mpr z))) (fun h => kf ((nI_eq hx hy).mp h))
theorem wy_icmp_lt (hexec : p.tables.exec = Jvm.exec) (hb : c.code = cc) (x y : Nat) (hx : x < 2 ^ 31) (hy : y < 2 ^ 31) {off : Int} {tgt : Nat} (hdg : decode cc pc = .ok (.if_icmp .lt off, 3)) (ht : (pc : Int) + off = (tgt : Int))
    (kt : x < y → W p l e R s m args below meth c H locs cells slots Q (F0 m tgt ls rest)) (kf : y ≤ x → W p l e R s m args below meth c H locs cells slots Q (F0 m (pc + 3) ls rest)) : W p l e R s m args below meth c H locs cells slots Q (F0 m pc ls (.int (nI y) :: .int (nI x) :: rest)) :=
  lv_icmp_lt hexec hb hdg ht (fun h => kt ((nI_ltI hx hy).mp h)) (fun h => kf (Nat.not_lt.mp (fun z => h ((nI_ltI hx hy).mpr z))))
theorem wy_icmp_ge (hexec : p.tables.exec = Jvm.exec) (hb : c.code = cc) (x y : Nat) (hx : x < 2 ^ 31) (hy : y < 2 ^ 31) {off : Int} {tgt : Nat} (hdg : decode cc pc = .ok (.if_icmp .ge off, 3)) (ht : (pc : Int) + off = (tgt : Int))
    (kt : y ≤ x → W p l e R s m args below meth c H locs cells slots Q (F0 m tgt ls rest)) (kf : x < y → W p l e R s m args below meth c H locs cells slots Q (F0 m (pc + 3) ls rest)) : W p l e R s m args below meth c H locs cells slots Q (F0 m pc ls (.int (nI y) :: .int (nI x) :: rest)) :=
  lv_icmp_ge hexec hb hdg ht (fun h => kt ((nI_leI hy hx).mp h)) (fun h => kf (Nat.not_le.mp (fun z => h ((nI_leI hy hx).mpr z))))
theorem wy_icmp_gt (hexec : p.tables.exec = Jvm.exec) (hb : c.code = cc) (x y : Nat) (hx : x < 2 ^ 31) (hy : y < 2 ^ 31) {off : Int} {tgt : Nat} (hdg : decode cc pc = .ok (.if_icmp .gt off, 3)) (ht : (pc : Int) + off = (tgt : Int))
    (kt : y < x → W p l e R s m args below meth c H locs cells slots Q (F0 m tgt ls rest)) (kf : x ≤ y → W p l e R s m args below meth c H locs cells slots Q (F0 m (pc + 3) ls rest)) : W p l e R s m args below meth c H locs cells slots Q (F0 m pc ls (.int (nI y) :: .int (nI x) :: rest)) :=
  lv_icmp_gt hexec hb hdg ht (fun h => kt ((nI_ltI hy hx).mp h)) (fun h => kf (Nat.not_lt.mp (fun z => h ((nI_ltI hy hx).mpr z))))
theorem wy_icmp_le (hexec : p.tables.exec = Jvm.exec) (hb : c.code = cc) (x y : Nat) (hx : x < 2 ^ 31) (hy : y < 2 ^ 31) {off : Int} {tgt : Nat} (hdg : decode cc pc = .ok (.if_icmp .le off, 3)) (ht : (pc : Int) + off = (tgt : Int))
    (kt : x ≤ y → W p l e R s m args below meth c H locs cells slots Q (F0 m tgt ls rest)) (kf : y < x → W p l e R s m args below meth c H locs cells slots Q (F0 m (pc + 3) ls rest)) : W p l e R s m args below meth c H locs cells slots Q (F0 m pc ls (.int (nI y) :: .int (nI x) :: rest)) :=
  lv_icmp_le hexec hb hdg ht (fun h => kt ((nI_leI hx hy).mp h)) (fun h => kf (Nat.not_le.mp (fun z => h ((nI_leI hx hy).mpr z))))
theorem wy_iadd (hexec : p.tables.exec = Jvm.exec) (hb : c.code = cc) (x y : Nat) (hdg : decode cc pc = .ok (.iadd, 1))
    (k : W p l e R s m args below meth c H locs cells slots Q (F0 m (pc + 1) ls (.int (nI (x + y)) :: rest))) : W p l e R s m args below meth c H locs cells slots Q (F0 m pc ls (.int (nI y) :: .int (nI x) :: rest)) :=
  lv_iadd hexec hb hdg (wy_cvi (nI_add x y) k)
theorem wy_isub (hexec : p.tables.exec = Jvm.exec) (hb : c.code = cc) (x y : Nat) (h : y ≤ x) (hdg : decode cc pc = .ok (.isub, 1))
    (k : W p l e R s m args below meth c H locs cells slots Q (F0 m (pc + 1) ls (.int (nI (x - y)) :: rest))) : W p l e R s m args below meth c H locs cells slots Q (F0 m pc ls (.int (nI y) :: .int (nI x) :: rest)) :=
  lv_isub hexec hb hdg (wy_cvi (pk_sub h) k)
theorem wy_imul (hexec : p.tables.exec = Jvm.exec) (hb : c.code = cc) (x y : Nat) (hdg : decode cc pc = .ok (.imul, 1))
    (k : W p l e R s m args below meth c H locs cells slots Q (F0 m (pc + 1) ls (.int (nI (x * y)) :: rest))) : W p l e R s m args below meth c H locs cells slots Q (F0 m pc ls (.int (nI y) :: .int (nI x) :: rest)) :=
  lv_imul hexec hb hdg (wy_cvi (pk_mul x y) k)
theorem wy_idiv (hexec : p.tables.exec = Jvm.exec) (hb : c.code = cc) (x y : Nat) (hx : x < 2 ^ 31) (h0 : 0 < y) (hy : y < 2 ^ 31) (hdg : decode cc pc = .ok (.idiv, 1))
    (k : W p l e R s m args below meth c H locs cells slots Q (F0 m (pc + 1) ls (.int (nI (x / y)) :: rest))) : W p l e R s m args below meth c H locs cells slots Q (F0 m pc ls (.int (nI y) :: .int (nI x) :: rest)) :=
  lv_idiv hexec hb hdg (nI_ne0 h0 hy) (wy_cvi (pk_div hx h0 hy) k)
theorem wy_irem (hexec : p.tables.exec = Jvm.exec) (hb : c.code = cc) (x y : Nat) (hx : x < 2 ^ 31) (h0 : 0 < y) (hy : y < 2 ^ 31) (hdg : decode cc pc = .ok (.irem, 1))
    (k : W p l e R s m args below meth c H locs cells slots Q (F0 m (pc + 1) ls (.int (nI (x % y)) :: rest))) : W p l e R s m args below meth c H locs cells slots Q (F0 m pc ls (.int (nI y) :: .int (nI x) :: rest)) :=
  lv_irem hexec hb hdg (nI_ne0 h0 hy) (wy_cvi (pk_rem hx h0 hy) k)
theorem wy_iinc (hexec : p.tables.exec = Jvm.exec) (hb : c.code = cc) {i nL k : Nat} {x : Nat} {lv lv' : List (Nat × Value)} (hdg : decode cc pc = .ok (.iinc i 1, 3)) (h : lv_has ls nL lv) (hk : lv[k]? = some (i, .int (nI x))) (hn : i < nL) (hl : (i, Value.int (nI (x + 1))) :: lv.filter (fun q => !(q.1 == i) && !(q.1 + 1 == i && q.2.category == 2)) = lv')
    (kk : ∀ ls' : Array Slot, lv_has ls' nL lv' → W p l e R s m args below meth c H locs cells slots Q (F0 m (pc + 3) ls' rest)) : W p l e R s m args below meth c H locs cells slots Q (F0 m pc ls rest) :=
  lv_iinc (v := nI (x + 1)) hexec hb hdg h hk (nI_1 x) hn hl kk
theorem wy_iald (hexec : p.tables.exec = Jvm.exec) (hb : c.code = cc) (hK : va_K D cl tys s) (hP : va_P D cl ws H) (q0 t0 k : Nat) {cA : ClassId} {n : Nat} {f : Nat → Int32} (ha : ws[q0]? = some (a, .inl (cA, n, .inl f))) (ht : tys[t0]? = some (cA, .int)) (hk : k < n) (hn : n < 2 ^ 31) (hdg : decode cc pc = .ok (.iaload, 1))
    (kk : W p l e R s m args below meth c H locs cells slots Q (F0 m (pc + 1) ls (.int (f k) :: rest))) : W p l e R s m args below meth c H locs cells slots Q (F0 m pc ls (.int (nI k) :: .ref a :: rest)) :=
  va_iald hexec hb hK hP q0 t0 ha ht (vp_in_nI hk hn) hdg (wy_cvi (by rw [nI_clamp (Nat.lt_trans hk hn)]) kk)
theorem wy_iast (hexec : p.tables.exec = Jvm.exec) (hb : c.code = cc) (hK : va_K D cl tys s) (hP : va_P D cl ws H) (hD : va_D A ws) (hS : va_S A H0 H locs) (q0 t0 k : Nat) {cA : ClassId} {n : Nat} {f : Nat → Int32} (ha : ws[q0]? = some (a, .inl (cA, n, .inl f))) (ht : tys[t0]? = some (cA, .int)) {x : Int32} (hk : k < n) (hn : n < 2 ^ 31) (hdg : decode cc pc = .ok (.iastore, 1))
    (kk : ∀ (H1 : Heap) (locs1 : List Loc), va_P D cl (ws.set q0 (a, .inl (cA, n, .inl (upd f k x)))) H1 → va_D A (ws.set q0 (a, .inl (cA, n, .inl (upd f k x)))) → va_S A H0 H1 locs1 → W p l e R s m args below meth c H1 locs1 cells slots Q (F0 m (pc + 1) ls rest)) : W p l e R s m args below meth c H locs cells slots Q (F0 m pc ls (.int x :: .int (nI k) :: .ref a :: rest)) :=
  va_iast hexec hb hK hP hD hS q0 t0 ha ht (vp_in_nI hk hn) hdg (fun H1 L1 h1 h2 h3 => by rw [nI_clamp (Nat.lt_trans hk hn)] at h1 h2; exact kk H1 L1 h1 h2 h3)
end WY
section WYC
variable {p : Program} {l : Launch} {e : Env} {R : Room} {s : State} {m : MethodId} {args : Array Value} {below : List Frame} {meth : Method} {c : Code} {H : Heap} {locs : List Loc} {cells slots : Nat} {Q : State → Prop}
variable {pc : Nat} {ls : Array Slot} {rest st0 : List Value} {a : Array Value} {A0 : Nat → Prop} {H0 : Heap} {mc ms : Nat} {D : va_G} {cl : List vw_C} {tys : List (ClassId × FieldType)} {ws wc wr w1 : va_W}
/-- a call whose end is told: the answer rv, the cells w1; the rest wr stays -/
theorem wy_calli {rv : Int32} (hr : va_Run p l e R s m args below meth c H locs cells slots mc ms (F0 m pc ls st0) rest (va_Qi (fun (r : Int32) (_ : Unit) => r = rv) (fun _ => wy_N D cl tys (va_A wc H.size) w1) (va_A wc H.size) a) (va_A wc H.size)) (hP : va_P D cl ws H) (hD : va_D A0 ws) (hS : va_S A0 H0 H locs) (hA : ∀ q, H0.size ≤ q → A0 q)
    (isC isR : List Nat) (hC : isC.map (fun i => ws[i]?) = wc.map some) (hR : isR.map (fun i => ws[i]?) = wr.map some) (hn : va_nd isR = true) (hdis : ∀ i ∈ isR, i ∉ isC)
    (kk : ∀ (H1 : Heap) (locs1 : List Loc), va_P D cl (wr ++ w1) H1 → va_D A0 (wr ++ w1) → va_S A0 H0 H1 locs1 → W p l e R s m args below meth c H1 locs1 (cells + mc) (slots + ms) Q (F0 m (pc + 3) ls (.int rv :: rest))) : W p l e R s m args below meth c H locs cells slots Q (F0 m pc ls st0) := by
  have hFc := va_free (wc := wc) hD hS hA isC hC
  refine va_calli hr hS (fun q _ h => hFc q h) hFc (fun r u t H1 locs1 ht hvm hw hB hz1 hk1 hS1 => ?_)
  obtain ⟨hP1, hK1, hD1⟩ := hB
  rw [ht] at hP1
  obtain ⟨hP2, hD2⟩ := va_join (wr := wr) (w1 := w1) hP hD isC isR hC hR hn hdis hk1 hFc hP1 hD1
  subst hw
  exact kk H1 locs1 hP2 hD2 hS1
theorem wy_callv (hr : va_Run p l e R s m args below meth c H locs cells slots mc ms (F0 m pc ls st0) rest (va_Qv (fun (_ : Unit) => True) (fun _ => wy_N D cl tys (va_A wc H.size) w1) (va_A wc H.size) a) (va_A wc H.size)) (hP : va_P D cl ws H) (hD : va_D A0 ws) (hS : va_S A0 H0 H locs) (hA : ∀ q, H0.size ≤ q → A0 q)
    (isC isR : List Nat) (hC : isC.map (fun i => ws[i]?) = wc.map some) (hR : isR.map (fun i => ws[i]?) = wr.map some) (hn : va_nd isR = true) (hdis : ∀ i ∈ isR, i ∉ isC)
    (kk : ∀ (H1 : Heap) (locs1 : List Loc), va_P D cl (wr ++ w1) H1 → va_D A0 (wr ++ w1) → va_S A0 H0 H1 locs1 → W p l e R s m args below meth c H1 locs1 (cells + mc) (slots + ms) Q (F0 m (pc + 3) ls rest)) : W p l e R s m args below meth c H locs cells slots Q (F0 m pc ls st0) := by
  have hFc := va_free (wc := wc) hD hS hA isC hC
  refine va_callv hr hS (fun q _ h => hFc q h) hFc (fun u t H1 locs1 ht hvm hw hB hz1 hk1 hS1 => ?_)
  obtain ⟨hP1, hK1, hD1⟩ := hB
  rw [ht] at hP1
  obtain ⟨hP2, hD2⟩ := va_join (wr := wr) (w1 := w1) hP hD isC isR hC hR hn hdis hk1 hFc hP1 hD1
  exact kk H1 locs1 hP2 hD2 hS1
end WYC
theorem bo_nar (b : Bool) : narrow .boolean (.int (bo_I b)) = .int (bo_I b) := by cases b <;> rfl
theorem bo_fit (b : Bool) : fits .boolean (.int (bo_I b)) = true := by cases b <;> rfl
section WYI
variable {p : Program} {l : Launch} {e : Env} {R : Room} {s : State} {m : MethodId} {args : Array Value} {below : List Frame} {meth : Method} {c : Code} {H : Heap} {locs : List Loc} {cells slots : Nat} {Q : State → Prop}
variable {cc : ByteArray} {pc : Nat} {ls : Array Slot} {rest : List Value}
theorem wy_ifeqN (hexec : p.tables.exec = Jvm.exec) (hb : c.code = cc) (x : Nat) (hx : x < 2 ^ 31) {off : Int} {tgt : Nat} (hdg : decode cc pc = .ok (.ifCond .eq off, 3)) (ht : (pc : Int) + off = (tgt : Int))
    (kt : x = 0 → W p l e R s m args below meth c H locs cells slots Q (F0 m tgt ls rest)) (kf : ¬ x = 0 → W p l e R s m args below meth c H locs cells slots Q (F0 m (pc + 3) ls rest)) : W p l e R s m args below meth c H locs cells slots Q (F0 m pc ls (.int (nI x) :: rest)) :=
  lv_if_eq hexec hb hdg ht (fun h => kt ((nI_eq hx (by decide)).mp (h.trans nI_0.symm))) (fun h => kf (fun z => h (by rw [z]; exact nI_0)))
theorem wy_ifneN (hexec : p.tables.exec = Jvm.exec) (hb : c.code = cc) (x : Nat) (hx : x < 2 ^ 31) {off : Int} {tgt : Nat} (hdg : decode cc pc = .ok (.ifCond .ne off, 3)) (ht : (pc : Int) + off = (tgt : Int))
    (kt : ¬ x = 0 → W p l e R s m args below meth c H locs cells slots Q (F0 m tgt ls rest)) (kf : x = 0 → W p l e R s m args below meth c H locs cells slots Q (F0 m (pc + 3) ls rest)) : W p l e R s m args below meth c H locs cells slots Q (F0 m pc ls (.int (nI x) :: rest)) :=
  lv_if_ne hexec hb hdg ht (fun h => kt (fun z => h (by rw [z]; exact nI_0))) (fun h => kf ((nI_eq hx (by decide)).mp (h.trans nI_0.symm)))
theorem wy_ifltN (hexec : p.tables.exec = Jvm.exec) (hb : c.code = cc) (x : Nat) (hx : x < 2 ^ 31) {off : Int} {tgt : Nat} (hdg : decode cc pc = .ok (.ifCond .lt off, 3)) (ht : (pc : Int) + off = (tgt : Int))
    (kf : W p l e R s m args below meth c H locs cells slots Q (F0 m (pc + 3) ls rest)) : W p l e R s m args below meth c H locs cells slots Q (F0 m pc ls (.int (nI x) :: rest)) :=
  lv_if_lt hexec hb hdg ht (fun h => absurd h (nI_pos hx)) (fun _ => kf)
theorem wy_ifgeN (hexec : p.tables.exec = Jvm.exec) (hb : c.code = cc) (x : Nat) (hx : x < 2 ^ 31) {off : Int} {tgt : Nat} (hdg : decode cc pc = .ok (.ifCond .ge off, 3)) (ht : (pc : Int) + off = (tgt : Int))
    (kt : W p l e R s m args below meth c H locs cells slots Q (F0 m tgt ls rest)) : W p l e R s m args below meth c H locs cells slots Q (F0 m pc ls (.int (nI x) :: rest)) :=
  lv_if_ge hexec hb hdg ht (fun _ => kt) (fun h => absurd (nI_pos' hx) h)
theorem wy_ifgtN (hexec : p.tables.exec = Jvm.exec) (hb : c.code = cc) (x : Nat) (hx : x < 2 ^ 31) {off : Int} {tgt : Nat} (hdg : decode cc pc = .ok (.ifCond .gt off, 3)) (ht : (pc : Int) + off = (tgt : Int))
    (kt : 0 < x → W p l e R s m args below meth c H locs cells slots Q (F0 m tgt ls rest)) (kf : x = 0 → W p l e R s m args below meth c H locs cells slots Q (F0 m (pc + 3) ls rest)) : W p l e R s m args below meth c H locs cells slots Q (F0 m pc ls (.int (nI x) :: rest)) :=
  lv_if_gt hexec hb hdg ht (fun h => kt (Nat.pos_of_ne_zero (fun z => by subst z; exact absurd h (by decide)))) (fun h => kf (Nat.eq_zero_of_not_pos (fun z => h (nI_0 ▸ nI_lt z hx))))
theorem wy_ifleN (hexec : p.tables.exec = Jvm.exec) (hb : c.code = cc) (x : Nat) (hx : x < 2 ^ 31) {off : Int} {tgt : Nat} (hdg : decode cc pc = .ok (.ifCond .le off, 3)) (ht : (pc : Int) + off = (tgt : Int))
    (kt : x = 0 → W p l e R s m args below meth c H locs cells slots Q (F0 m tgt ls rest)) (kf : 0 < x → W p l e R s m args below meth c H locs cells slots Q (F0 m (pc + 3) ls rest)) : W p l e R s m args below meth c H locs cells slots Q (F0 m pc ls (.int (nI x) :: rest)) :=
  lv_if_le hexec hb hdg ht (fun h => kt (Nat.eq_zero_of_not_pos (fun z => nI_nle z hx h))) (fun h => kf (Nat.pos_of_ne_zero (fun z => by subst z; exact absurd (by decide) h)))
end WYI
theorem wy_sameA {D : va_G} {cl : List vw_C} {tys : List (ClassId × FieldType)} {s : State} {c1 c2 : ClassId} (hK : va_K D cl tys s) (i j : Nat) (h1 : tys[i]? = some (c1, .int)) (h2 : tys[j]? = some (c2, .int)) : c1 = c2 :=
  Option.some.inj ((hK.2 i _ h1).2.symm.trans (hK.2 j _ h2).2)
end
section
/-! decode rows of PatternText$Holidays -/
theorem d_Ho_init_0 : decode b_Ho_init 0 = .ok (.aload_n 0, 1) := by decide +kernel
theorem d_Ho_init_1 : decode b_Ho_init 1 = .ok (.invokespecial 3, 3) := by decide +kernel
theorem d_Ho_init_4 : decode b_Ho_init 4 = .ok (.aload_n 0, 1) := by decide +kernel
theorem d_Ho_init_5 : decode b_Ho_init 5 = .ok (.bipush 60, 2) := by decide +kernel
theorem d_Ho_init_7 : decode b_Ho_init 7 = .ok (.newarray .int, 2) := by decide +kernel
theorem d_Ho_init_9 : decode b_Ho_init 9 = .ok (.putfield 9, 3) := by decide +kernel
theorem d_Ho_init_12 : decode b_Ho_init 12 = .ok (.aload_n 0, 1) := by decide +kernel
theorem d_Ho_init_13 : decode b_Ho_init 13 = .ok (.iconst 0, 1) := by decide +kernel
theorem d_Ho_init_14 : decode b_Ho_init 14 = .ok (.putfield 15, 3) := by decide +kernel
theorem d_Ho_init_17 : decode b_Ho_init 17 = .ok (.return_, 1) := by decide +kernel
theorem d_Ho_add_0 : decode b_Ho_add 0 = .ok (.aload_n 0, 1) := by decide +kernel
theorem d_Ho_add_1 : decode b_Ho_add 1 = .ok (.getfield 15, 3) := by decide +kernel
theorem d_Ho_add_4 : decode b_Ho_add 4 = .ok (.bipush 60, 2) := by decide +kernel
theorem d_Ho_add_6 : decode b_Ho_add 6 = .ok (.if_icmp .ge 12, 3) := by decide +kernel
theorem d_Ho_add_9 : decode b_Ho_add 9 = .ok (.aload_n 0, 1) := by decide +kernel
theorem d_Ho_add_10 : decode b_Ho_add 10 = .ok (.iload_n 1, 1) := by decide +kernel
theorem d_Ho_add_11 : decode b_Ho_add 11 = .ok (.invokevirtual 19, 3) := by decide +kernel
theorem d_Ho_add_14 : decode b_Ho_add 14 = .ok (.iload_n 1, 1) := by decide +kernel
theorem d_Ho_add_15 : decode b_Ho_add 15 = .ok (.if_icmp .eq 5, 3) := by decide +kernel
theorem d_Ho_add_18 : decode b_Ho_add 18 = .ok (.iconst 0, 1) := by decide +kernel
theorem d_Ho_add_19 : decode b_Ho_add 19 = .ok (.ireturn, 1) := by decide +kernel
theorem d_Ho_add_20 : decode b_Ho_add 20 = .ok (.aload_n 0, 1) := by decide +kernel
theorem d_Ho_add_21 : decode b_Ho_add 21 = .ok (.getfield 15, 3) := by decide +kernel
theorem d_Ho_add_24 : decode b_Ho_add 24 = .ok (.istore_n 2, 1) := by decide +kernel
theorem d_Ho_add_25 : decode b_Ho_add 25 = .ok (.iload_n 2, 1) := by decide +kernel
theorem d_Ho_add_26 : decode b_Ho_add 26 = .ok (.ifCond .le 35, 3) := by decide +kernel
theorem d_Ho_add_29 : decode b_Ho_add 29 = .ok (.aload_n 0, 1) := by decide +kernel
theorem d_Ho_add_30 : decode b_Ho_add 30 = .ok (.getfield 9, 3) := by decide +kernel
theorem d_Ho_add_33 : decode b_Ho_add 33 = .ok (.iload_n 2, 1) := by decide +kernel
theorem d_Ho_add_34 : decode b_Ho_add 34 = .ok (.iconst 1, 1) := by decide +kernel
theorem d_Ho_add_35 : decode b_Ho_add 35 = .ok (.isub, 1) := by decide +kernel
theorem d_Ho_add_36 : decode b_Ho_add 36 = .ok (.iaload, 1) := by decide +kernel
theorem d_Ho_add_37 : decode b_Ho_add 37 = .ok (.iload_n 1, 1) := by decide +kernel
theorem d_Ho_add_38 : decode b_Ho_add 38 = .ok (.if_icmp .le 23, 3) := by decide +kernel
theorem d_Ho_add_41 : decode b_Ho_add 41 = .ok (.aload_n 0, 1) := by decide +kernel
theorem d_Ho_add_42 : decode b_Ho_add 42 = .ok (.getfield 9, 3) := by decide +kernel
theorem d_Ho_add_45 : decode b_Ho_add 45 = .ok (.iload_n 2, 1) := by decide +kernel
theorem d_Ho_add_46 : decode b_Ho_add 46 = .ok (.aload_n 0, 1) := by decide +kernel
theorem d_Ho_add_47 : decode b_Ho_add 47 = .ok (.getfield 9, 3) := by decide +kernel
theorem d_Ho_add_50 : decode b_Ho_add 50 = .ok (.iload_n 2, 1) := by decide +kernel
theorem d_Ho_add_51 : decode b_Ho_add 51 = .ok (.iconst 1, 1) := by decide +kernel
theorem d_Ho_add_52 : decode b_Ho_add 52 = .ok (.isub, 1) := by decide +kernel
theorem d_Ho_add_53 : decode b_Ho_add 53 = .ok (.iaload, 1) := by decide +kernel
theorem d_Ho_add_54 : decode b_Ho_add 54 = .ok (.iastore, 1) := by decide +kernel
theorem d_Ho_add_55 : decode b_Ho_add 55 = .ok (.iinc 2 (-1), 3) := by decide +kernel
theorem d_Ho_add_58 : decode b_Ho_add 58 = .ok (.goto (-33), 3) := by decide +kernel
theorem d_Ho_add_61 : decode b_Ho_add 61 = .ok (.aload_n 0, 1) := by decide +kernel
theorem d_Ho_add_62 : decode b_Ho_add 62 = .ok (.getfield 9, 3) := by decide +kernel
theorem d_Ho_add_65 : decode b_Ho_add 65 = .ok (.iload_n 2, 1) := by decide +kernel
theorem d_Ho_add_66 : decode b_Ho_add 66 = .ok (.iload_n 1, 1) := by decide +kernel
theorem d_Ho_add_67 : decode b_Ho_add 67 = .ok (.iastore, 1) := by decide +kernel
theorem d_Ho_add_68 : decode b_Ho_add 68 = .ok (.aload_n 0, 1) := by decide +kernel
theorem d_Ho_add_69 : decode b_Ho_add 69 = .ok (.dup, 1) := by decide +kernel
theorem d_Ho_add_70 : decode b_Ho_add 70 = .ok (.getfield 15, 3) := by decide +kernel
theorem d_Ho_add_73 : decode b_Ho_add 73 = .ok (.iconst 1, 1) := by decide +kernel
theorem d_Ho_add_74 : decode b_Ho_add 74 = .ok (.iadd, 1) := by decide +kernel
theorem d_Ho_add_75 : decode b_Ho_add 75 = .ok (.putfield 15, 3) := by decide +kernel
theorem d_Ho_add_78 : decode b_Ho_add 78 = .ok (.iconst 1, 1) := by decide +kernel
theorem d_Ho_add_79 : decode b_Ho_add 79 = .ok (.ireturn, 1) := by decide +kernel
theorem d_Ho_dayFrom_0 : decode b_Ho_dayFrom 0 = .ok (.iload_n 1, 1) := by decide +kernel
theorem d_Ho_dayFrom_1 : decode b_Ho_dayFrom 1 = .ok (.istore_n 2, 1) := by decide +kernel
theorem d_Ho_dayFrom_2 : decode b_Ho_dayFrom 2 = .ok (.iconst 0, 1) := by decide +kernel
theorem d_Ho_dayFrom_3 : decode b_Ho_dayFrom 3 = .ok (.istore_n 3, 1) := by decide +kernel
theorem d_Ho_dayFrom_4 : decode b_Ho_dayFrom 4 = .ok (.iload_n 3, 1) := by decide +kernel
theorem d_Ho_dayFrom_5 : decode b_Ho_dayFrom 5 = .ok (.aload_n 0, 1) := by decide +kernel
theorem d_Ho_dayFrom_6 : decode b_Ho_dayFrom 6 = .ok (.getfield 15, 3) := by decide +kernel
theorem d_Ho_dayFrom_9 : decode b_Ho_dayFrom 9 = .ok (.if_icmp .ge 22, 3) := by decide +kernel
theorem d_Ho_dayFrom_12 : decode b_Ho_dayFrom 12 = .ok (.aload_n 0, 1) := by decide +kernel
theorem d_Ho_dayFrom_13 : decode b_Ho_dayFrom 13 = .ok (.getfield 9, 3) := by decide +kernel
theorem d_Ho_dayFrom_16 : decode b_Ho_dayFrom 16 = .ok (.iload_n 3, 1) := by decide +kernel
theorem d_Ho_dayFrom_17 : decode b_Ho_dayFrom 17 = .ok (.iaload, 1) := by decide +kernel
theorem d_Ho_dayFrom_18 : decode b_Ho_dayFrom 18 = .ok (.iload_n 2, 1) := by decide +kernel
theorem d_Ho_dayFrom_19 : decode b_Ho_dayFrom 19 = .ok (.if_icmp .ne 6, 3) := by decide +kernel
theorem d_Ho_dayFrom_22 : decode b_Ho_dayFrom 22 = .ok (.iinc 2 1, 3) := by decide +kernel
theorem d_Ho_dayFrom_25 : decode b_Ho_dayFrom 25 = .ok (.iinc 3 1, 3) := by decide +kernel
theorem d_Ho_dayFrom_28 : decode b_Ho_dayFrom 28 = .ok (.goto (-24), 3) := by decide +kernel
theorem d_Ho_dayFrom_31 : decode b_Ho_dayFrom 31 = .ok (.iload_n 2, 1) := by decide +kernel
theorem d_Ho_dayFrom_32 : decode b_Ho_dayFrom 32 = .ok (.ireturn, 1) := by decide +kernel
end
section
/-! decode rows of java.lang.String -/
theorem d_Js_length_0 : decode b_Js_length 0 = .ok (.aload_n 0, 1) := by decide +kernel
theorem d_Js_length_1 : decode b_Js_length 1 = .ok (.getfield 9, 3) := by decide +kernel
theorem d_Js_length_4 : decode b_Js_length 4 = .ok (.arraylength, 1) := by decide +kernel
theorem d_Js_length_5 : decode b_Js_length 5 = .ok (.aload_n 0, 1) := by decide +kernel
theorem d_Js_length_6 : decode b_Js_length 6 = .ok (.invokevirtual 335, 3) := by decide +kernel
theorem d_Js_length_9 : decode b_Js_length 9 = .ok (.ishr, 1) := by decide +kernel
theorem d_Js_length_10 : decode b_Js_length 10 = .ok (.ireturn, 1) := by decide +kernel
theorem d_Js_coder_0 : decode b_Js_coder 0 = .ok (.getstatic 38, 3) := by decide +kernel
theorem d_Js_coder_3 : decode b_Js_coder 3 = .ok (.ifCond .eq 10, 3) := by decide +kernel
theorem d_Js_coder_6 : decode b_Js_coder 6 = .ok (.aload_n 0, 1) := by decide +kernel
theorem d_Js_coder_7 : decode b_Js_coder 7 = .ok (.getfield 15, 3) := by decide +kernel
theorem d_Js_coder_10 : decode b_Js_coder 10 = .ok (.goto 4, 3) := by decide +kernel
theorem d_Js_coder_13 : decode b_Js_coder 13 = .ok (.iconst 1, 1) := by decide +kernel
theorem d_Js_coder_14 : decode b_Js_coder 14 = .ok (.ireturn, 1) := by decide +kernel
theorem d_Js_isLatin1_0 : decode b_Js_isLatin1 0 = .ok (.getstatic 38, 3) := by decide +kernel
theorem d_Js_isLatin1_3 : decode b_Js_isLatin1 3 = .ok (.ifCond .eq 14, 3) := by decide +kernel
theorem d_Js_isLatin1_6 : decode b_Js_isLatin1 6 = .ok (.aload_n 0, 1) := by decide +kernel
theorem d_Js_isLatin1_7 : decode b_Js_isLatin1 7 = .ok (.getfield 15, 3) := by decide +kernel
theorem d_Js_isLatin1_10 : decode b_Js_isLatin1 10 = .ok (.ifCond .ne 7, 3) := by decide +kernel
theorem d_Js_isLatin1_13 : decode b_Js_isLatin1 13 = .ok (.iconst 1, 1) := by decide +kernel
theorem d_Js_isLatin1_14 : decode b_Js_isLatin1 14 = .ok (.goto 4, 3) := by decide +kernel
theorem d_Js_isLatin1_17 : decode b_Js_isLatin1 17 = .ok (.iconst 0, 1) := by decide +kernel
theorem d_Js_isLatin1_18 : decode b_Js_isLatin1 18 = .ok (.ireturn, 1) := by decide +kernel
theorem d_Js_charAt_0 : decode b_Js_charAt 0 = .ok (.aload_n 0, 1) := by decide +kernel
theorem d_Js_charAt_1 : decode b_Js_charAt 1 = .ok (.invokevirtual 492, 3) := by decide +kernel
theorem d_Js_charAt_4 : decode b_Js_charAt 4 = .ok (.ifCond .eq 12, 3) := by decide +kernel
theorem d_Js_charAt_7 : decode b_Js_charAt 7 = .ok (.aload_n 0, 1) := by decide +kernel
theorem d_Js_charAt_8 : decode b_Js_charAt 8 = .ok (.getfield 9, 3) := by decide +kernel
theorem d_Js_charAt_11 : decode b_Js_charAt 11 = .ok (.iload_n 1, 1) := by decide +kernel
theorem d_Js_charAt_12 : decode b_Js_charAt 12 = .ok (.invokestatic 495, 3) := by decide +kernel
theorem d_Js_charAt_15 : decode b_Js_charAt 15 = .ok (.ireturn, 1) := by decide +kernel
theorem d_Js_checkIndex_0 : decode b_Js_checkIndex 0 = .ok (.iload_n 0, 1) := by decide +kernel
theorem d_Js_checkIndex_1 : decode b_Js_checkIndex 1 = .ok (.iload_n 1, 1) := by decide +kernel
theorem d_Js_checkIndex_2 : decode b_Js_checkIndex 2 = .ok (.getstatic 1053, 3) := by decide +kernel
theorem d_Js_checkIndex_5 : decode b_Js_checkIndex 5 = .ok (.invokestatic 1059, 3) := by decide +kernel
theorem d_Js_checkIndex_8 : decode b_Js_checkIndex 8 = .ok (.pop, 1) := by decide +kernel
theorem d_Js_checkIndex_9 : decode b_Js_checkIndex 9 = .ok (.return_, 1) := by decide +kernel
/-! decode rows of java.lang.StringLatin1 -/
theorem d_Jl_charAt_0 : decode b_Jl_charAt 0 = .ok (.iload_n 1, 1) := by decide +kernel
theorem d_Jl_charAt_1 : decode b_Jl_charAt 1 = .ok (.aload_n 0, 1) := by decide +kernel
theorem d_Jl_charAt_2 : decode b_Jl_charAt 2 = .ok (.arraylength, 1) := by decide +kernel
theorem d_Jl_charAt_3 : decode b_Jl_charAt 3 = .ok (.invokestatic 9, 3) := by decide +kernel
theorem d_Jl_charAt_6 : decode b_Jl_charAt 6 = .ok (.aload_n 0, 1) := by decide +kernel
theorem d_Jl_charAt_7 : decode b_Jl_charAt 7 = .ok (.iload_n 1, 1) := by decide +kernel
theorem d_Jl_charAt_8 : decode b_Jl_charAt 8 = .ok (.baload, 1) := by decide +kernel
theorem d_Jl_charAt_9 : decode b_Jl_charAt 9 = .ok (.sipush 255, 3) := by decide +kernel
theorem d_Jl_charAt_12 : decode b_Jl_charAt 12 = .ok (.iand, 1) := by decide +kernel
theorem d_Jl_charAt_13 : decode b_Jl_charAt 13 = .ok (.i2c, 1) := by decide +kernel
theorem d_Jl_charAt_14 : decode b_Jl_charAt 14 = .ok (.ireturn, 1) := by decide +kernel
/-! decode rows of jdk.internal.util.Preconditions -/
theorem d_Jp_checkIndex_0 : decode b_Jp_checkIndex 0 = .ok (.iload_n 0, 1) := by decide +kernel
theorem d_Jp_checkIndex_1 : decode b_Jp_checkIndex 1 = .ok (.ifCond .lt 8, 3) := by decide +kernel
theorem d_Jp_checkIndex_4 : decode b_Jp_checkIndex 4 = .ok (.iload_n 0, 1) := by decide +kernel
theorem d_Jp_checkIndex_5 : decode b_Jp_checkIndex 5 = .ok (.iload_n 1, 1) := by decide +kernel
theorem d_Jp_checkIndex_6 : decode b_Jp_checkIndex 6 = .ok (.if_icmp .lt 10, 3) := by decide +kernel
theorem d_Jp_checkIndex_16 : decode b_Jp_checkIndex 16 = .ok (.iload_n 0, 1) := by decide +kernel
theorem d_Jp_checkIndex_17 : decode b_Jp_checkIndex 17 = .ok (.ireturn, 1) := by decide +kernel
end
section
/-! decode rows of PatternText$IssueList -/
theorem d_Li_init_0 : decode b_Li_init 0 = .ok (.aload_n 0, 1) := by decide +kernel
theorem d_Li_init_1 : decode b_Li_init 1 = .ok (.invokespecial 3, 3) := by decide +kernel
theorem d_Li_init_4 : decode b_Li_init 4 = .ok (.aload_n 0, 1) := by decide +kernel
theorem d_Li_init_5 : decode b_Li_init 5 = .ok (.bipush 100, 2) := by decide +kernel
theorem d_Li_init_7 : decode b_Li_init 7 = .ok (.newarray .int, 2) := by decide +kernel
theorem d_Li_init_9 : decode b_Li_init 9 = .ok (.putfield 9, 3) := by decide +kernel
theorem d_Li_init_12 : decode b_Li_init 12 = .ok (.aload_n 0, 1) := by decide +kernel
theorem d_Li_init_13 : decode b_Li_init 13 = .ok (.bipush 100, 2) := by decide +kernel
theorem d_Li_init_15 : decode b_Li_init 15 = .ok (.newarray .int, 2) := by decide +kernel
theorem d_Li_init_17 : decode b_Li_init 17 = .ok (.putfield 15, 3) := by decide +kernel
theorem d_Li_init_20 : decode b_Li_init 20 = .ok (.aload_n 0, 1) := by decide +kernel
theorem d_Li_init_21 : decode b_Li_init 21 = .ok (.bipush 100, 2) := by decide +kernel
theorem d_Li_init_23 : decode b_Li_init 23 = .ok (.newarray .int, 2) := by decide +kernel
theorem d_Li_init_25 : decode b_Li_init 25 = .ok (.putfield 18, 3) := by decide +kernel
theorem d_Li_init_28 : decode b_Li_init 28 = .ok (.aload_n 0, 1) := by decide +kernel
theorem d_Li_init_29 : decode b_Li_init 29 = .ok (.bipush 100, 2) := by decide +kernel
theorem d_Li_init_31 : decode b_Li_init 31 = .ok (.newarray .int, 2) := by decide +kernel
theorem d_Li_init_33 : decode b_Li_init 33 = .ok (.putfield 21, 3) := by decide +kernel
theorem d_Li_init_36 : decode b_Li_init 36 = .ok (.aload_n 0, 1) := by decide +kernel
theorem d_Li_init_37 : decode b_Li_init 37 = .ok (.bipush 100, 2) := by decide +kernel
theorem d_Li_init_39 : decode b_Li_init 39 = .ok (.newarray .int, 2) := by decide +kernel
theorem d_Li_init_41 : decode b_Li_init 41 = .ok (.putfield 24, 3) := by decide +kernel
theorem d_Li_init_44 : decode b_Li_init 44 = .ok (.aload_n 0, 1) := by decide +kernel
theorem d_Li_init_45 : decode b_Li_init 45 = .ok (.bipush 100, 2) := by decide +kernel
theorem d_Li_init_47 : decode b_Li_init 47 = .ok (.newarray .int, 2) := by decide +kernel
theorem d_Li_init_49 : decode b_Li_init 49 = .ok (.putfield 27, 3) := by decide +kernel
theorem d_Li_init_52 : decode b_Li_init 52 = .ok (.aload_n 0, 1) := by decide +kernel
theorem d_Li_init_53 : decode b_Li_init 53 = .ok (.bipush 100, 2) := by decide +kernel
theorem d_Li_init_55 : decode b_Li_init 55 = .ok (.newarray .int, 2) := by decide +kernel
theorem d_Li_init_57 : decode b_Li_init 57 = .ok (.putfield 30, 3) := by decide +kernel
theorem d_Li_init_60 : decode b_Li_init 60 = .ok (.aload_n 0, 1) := by decide +kernel
theorem d_Li_init_61 : decode b_Li_init 61 = .ok (.bipush 100, 2) := by decide +kernel
theorem d_Li_init_63 : decode b_Li_init 63 = .ok (.newarray .int, 2) := by decide +kernel
theorem d_Li_init_65 : decode b_Li_init 65 = .ok (.putfield 33, 3) := by decide +kernel
theorem d_Li_init_68 : decode b_Li_init 68 = .ok (.aload_n 0, 1) := by decide +kernel
theorem d_Li_init_69 : decode b_Li_init 69 = .ok (.bipush 100, 2) := by decide +kernel
theorem d_Li_init_71 : decode b_Li_init 71 = .ok (.newarray .int, 2) := by decide +kernel
theorem d_Li_init_73 : decode b_Li_init 73 = .ok (.putfield 36, 3) := by decide +kernel
theorem d_Li_init_76 : decode b_Li_init 76 = .ok (.aload_n 0, 1) := by decide +kernel
theorem d_Li_init_77 : decode b_Li_init 77 = .ok (.iconst 0, 1) := by decide +kernel
theorem d_Li_init_78 : decode b_Li_init 78 = .ok (.putfield 39, 3) := by decide +kernel
theorem d_Li_init_81 : decode b_Li_init 81 = .ok (.return_, 1) := by decide +kernel
theorem d_Li_has_0 : decode b_Li_has 0 = .ok (.iload_n 1, 1) := by decide +kernel
theorem d_Li_has_1 : decode b_Li_has 1 = .ok (.ifCond .lt 15, 3) := by decide +kernel
theorem d_Li_has_4 : decode b_Li_has 4 = .ok (.iload_n 1, 1) := by decide +kernel
theorem d_Li_has_5 : decode b_Li_has 5 = .ok (.aload_n 0, 1) := by decide +kernel
theorem d_Li_has_6 : decode b_Li_has 6 = .ok (.getfield 39, 3) := by decide +kernel
theorem d_Li_has_9 : decode b_Li_has 9 = .ok (.if_icmp .ge 7, 3) := by decide +kernel
theorem d_Li_has_12 : decode b_Li_has 12 = .ok (.iconst 1, 1) := by decide +kernel
theorem d_Li_has_13 : decode b_Li_has 13 = .ok (.goto 4, 3) := by decide +kernel
theorem d_Li_has_16 : decode b_Li_has 16 = .ok (.iconst 0, 1) := by decide +kernel
theorem d_Li_has_17 : decode b_Li_has 17 = .ok (.ireturn, 1) := by decide +kernel
theorem d_Li_isOut_0 : decode b_Li_isOut 0 = .ok (.aload_n 0, 1) := by decide +kernel
theorem d_Li_isOut_1 : decode b_Li_isOut 1 = .ok (.iload_n 1, 1) := by decide +kernel
theorem d_Li_isOut_2 : decode b_Li_isOut 2 = .ok (.invokevirtual 43, 3) := by decide +kernel
theorem d_Li_isOut_5 : decode b_Li_isOut 5 = .ok (.ifCond .eq 17, 3) := by decide +kernel
theorem d_Li_isOut_8 : decode b_Li_isOut 8 = .ok (.aload_n 0, 1) := by decide +kernel
theorem d_Li_isOut_9 : decode b_Li_isOut 9 = .ok (.getfield 36, 3) := by decide +kernel
theorem d_Li_isOut_12 : decode b_Li_isOut 12 = .ok (.iload_n 1, 1) := by decide +kernel
theorem d_Li_isOut_13 : decode b_Li_isOut 13 = .ok (.iaload, 1) := by decide +kernel
theorem d_Li_isOut_14 : decode b_Li_isOut 14 = .ok (.iconst (-1), 1) := by decide +kernel
theorem d_Li_isOut_15 : decode b_Li_isOut 15 = .ok (.if_icmp .ne 7, 3) := by decide +kernel
theorem d_Li_isOut_18 : decode b_Li_isOut 18 = .ok (.iconst 1, 1) := by decide +kernel
theorem d_Li_isOut_19 : decode b_Li_isOut 19 = .ok (.goto 4, 3) := by decide +kernel
theorem d_Li_isOut_22 : decode b_Li_isOut 22 = .ok (.iconst 0, 1) := by decide +kernel
theorem d_Li_isOut_23 : decode b_Li_isOut 23 = .ok (.ireturn, 1) := by decide +kernel
theorem d_Li_hasComeFrom_0 : decode b_Li_hasComeFrom 0 = .ok (.iconst 0, 1) := by decide +kernel
theorem d_Li_hasComeFrom_1 : decode b_Li_hasComeFrom 1 = .ok (.iload_n 1, 1) := by decide +kernel
theorem d_Li_hasComeFrom_2 : decode b_Li_hasComeFrom 2 = .ok (.invokestatic 47, 3) := by decide +kernel
theorem d_Li_hasComeFrom_5 : decode b_Li_hasComeFrom 5 = .ok (.istore_n 2, 1) := by decide +kernel
theorem d_Li_hasComeFrom_6 : decode b_Li_hasComeFrom 6 = .ok (.iload_n 2, 1) := by decide +kernel
theorem d_Li_hasComeFrom_7 : decode b_Li_hasComeFrom 7 = .ok (.aload_n 0, 1) := by decide +kernel
theorem d_Li_hasComeFrom_8 : decode b_Li_hasComeFrom 8 = .ok (.getfield 39, 3) := by decide +kernel
theorem d_Li_hasComeFrom_11 : decode b_Li_hasComeFrom 11 = .ok (.if_icmp .ge 19, 3) := by decide +kernel
theorem d_Li_hasComeFrom_14 : decode b_Li_hasComeFrom 14 = .ok (.aload_n 0, 1) := by decide +kernel
theorem d_Li_hasComeFrom_15 : decode b_Li_hasComeFrom 15 = .ok (.iload_n 2, 1) := by decide +kernel
theorem d_Li_hasComeFrom_16 : decode b_Li_hasComeFrom 16 = .ok (.invokevirtual 53, 3) := by decide +kernel
theorem d_Li_hasComeFrom_19 : decode b_Li_hasComeFrom 19 = .ok (.ifCond .ne 5, 3) := by decide +kernel
theorem d_Li_hasComeFrom_22 : decode b_Li_hasComeFrom 22 = .ok (.iconst 1, 1) := by decide +kernel
theorem d_Li_hasComeFrom_23 : decode b_Li_hasComeFrom 23 = .ok (.ireturn, 1) := by decide +kernel
theorem d_Li_hasComeFrom_24 : decode b_Li_hasComeFrom 24 = .ok (.iinc 2 1, 3) := by decide +kernel
theorem d_Li_hasComeFrom_27 : decode b_Li_hasComeFrom 27 = .ok (.goto (-21), 3) := by decide +kernel
theorem d_Li_hasComeFrom_30 : decode b_Li_hasComeFrom 30 = .ok (.iconst 0, 1) := by decide +kernel
theorem d_Li_hasComeFrom_31 : decode b_Li_hasComeFrom 31 = .ok (.ireturn, 1) := by decide +kernel
theorem d_Li_countBefore_0 : decode b_Li_countBefore 0 = .ok (.iconst 0, 1) := by decide +kernel
theorem d_Li_countBefore_1 : decode b_Li_countBefore 1 = .ok (.istore_n 2, 1) := by decide +kernel
theorem d_Li_countBefore_2 : decode b_Li_countBefore 2 = .ok (.iload_n 2, 1) := by decide +kernel
theorem d_Li_countBefore_3 : decode b_Li_countBefore 3 = .ok (.aload_n 0, 1) := by decide +kernel
theorem d_Li_countBefore_4 : decode b_Li_countBefore 4 = .ok (.getfield 39, 3) := by decide +kernel
theorem d_Li_countBefore_7 : decode b_Li_countBefore 7 = .ok (.if_icmp .ge 19, 3) := by decide +kernel
theorem d_Li_countBefore_10 : decode b_Li_countBefore 10 = .ok (.aload_n 0, 1) := by decide +kernel
theorem d_Li_countBefore_11 : decode b_Li_countBefore 11 = .ok (.getfield 9, 3) := by decide +kernel
theorem d_Li_countBefore_14 : decode b_Li_countBefore 14 = .ok (.iload_n 2, 1) := by decide +kernel
theorem d_Li_countBefore_15 : decode b_Li_countBefore 15 = .ok (.iaload, 1) := by decide +kernel
theorem d_Li_countBefore_16 : decode b_Li_countBefore 16 = .ok (.iload_n 1, 1) := by decide +kernel
theorem d_Li_countBefore_17 : decode b_Li_countBefore 17 = .ok (.if_icmp .ge 9, 3) := by decide +kernel
theorem d_Li_countBefore_20 : decode b_Li_countBefore 20 = .ok (.iinc 2 1, 3) := by decide +kernel
theorem d_Li_countBefore_23 : decode b_Li_countBefore 23 = .ok (.goto (-21), 3) := by decide +kernel
theorem d_Li_countBefore_26 : decode b_Li_countBefore 26 = .ok (.iload_n 2, 1) := by decide +kernel
theorem d_Li_countBefore_27 : decode b_Li_countBefore 27 = .ok (.ireturn, 1) := by decide +kernel
theorem d_Li_cutTo_0 : decode b_Li_cutTo 0 = .ok (.aload_n 0, 1) := by decide +kernel
theorem d_Li_cutTo_1 : decode b_Li_cutTo 1 = .ok (.iload_n 1, 1) := by decide +kernel
theorem d_Li_cutTo_2 : decode b_Li_cutTo 2 = .ok (.putfield 39, 3) := by decide +kernel
theorem d_Li_cutTo_5 : decode b_Li_cutTo 5 = .ok (.return_, 1) := by decide +kernel
theorem d_Li_goOn_0 : decode b_Li_goOn 0 = .ok (.iload_n 2, 1) := by decide +kernel
theorem d_Li_goOn_1 : decode b_Li_goOn 1 = .ok (.istore 5, 2) := by decide +kernel
theorem d_Li_goOn_3 : decode b_Li_goOn 3 = .ok (.iconst 1, 1) := by decide +kernel
theorem d_Li_goOn_4 : decode b_Li_goOn 4 = .ok (.istore 6, 2) := by decide +kernel
theorem d_Li_goOn_6 : decode b_Li_goOn 6 = .ok (.iload 6, 2) := by decide +kernel
theorem d_Li_goOn_8 : decode b_Li_goOn 8 = .ok (.iload_n 3, 1) := by decide +kernel
theorem d_Li_goOn_9 : decode b_Li_goOn 9 = .ok (.if_icmp .gt 74, 3) := by decide +kernel
theorem d_Li_goOn_12 : decode b_Li_goOn 12 = .ok (.aload_n 0, 1) := by decide +kernel
theorem d_Li_goOn_13 : decode b_Li_goOn 13 = .ok (.getfield 39, 3) := by decide +kernel
theorem d_Li_goOn_16 : decode b_Li_goOn 16 = .ok (.bipush 100, 2) := by decide +kernel
theorem d_Li_goOn_18 : decode b_Li_goOn 18 = .ok (.if_icmp .ge 65, 3) := by decide +kernel
theorem d_Li_goOn_21 : decode b_Li_goOn 21 = .ok (.aload_n 1, 1) := by decide +kernel
theorem d_Li_goOn_22 : decode b_Li_goOn 22 = .ok (.iload 5, 2) := by decide +kernel
theorem d_Li_goOn_24 : decode b_Li_goOn 24 = .ok (.invokevirtual 56, 3) := by decide +kernel
theorem d_Li_goOn_27 : decode b_Li_goOn 27 = .ok (.istore 7, 2) := by decide +kernel
theorem d_Li_goOn_29 : decode b_Li_goOn 29 = .ok (.iload 7, 2) := by decide +kernel
theorem d_Li_goOn_31 : decode b_Li_goOn 31 = .ok (.iconst (-1), 1) := by decide +kernel
theorem d_Li_goOn_32 : decode b_Li_goOn 32 = .ok (.if_icmp .ne 4, 3) := by decide +kernel
theorem d_Li_goOn_35 : decode b_Li_goOn 35 = .ok (.return_, 1) := by decide +kernel
theorem d_Li_goOn_36 : decode b_Li_goOn 36 = .ok (.aload 4, 2) := by decide +kernel
theorem d_Li_goOn_38 : decode b_Li_goOn 38 = .ok (.iload 7, 2) := by decide +kernel
theorem d_Li_goOn_40 : decode b_Li_goOn 40 = .ok (.invokevirtual 62, 3) := by decide +kernel
theorem d_Li_goOn_43 : decode b_Li_goOn 43 = .ok (.istore 8, 2) := by decide +kernel
theorem d_Li_goOn_45 : decode b_Li_goOn 45 = .ok (.iload 8, 2) := by decide +kernel
theorem d_Li_goOn_47 : decode b_Li_goOn 47 = .ok (.ldc 67, 2) := by decide +kernel
theorem d_Li_goOn_49 : decode b_Li_goOn 49 = .ok (.if_icmp .le 4, 3) := by decide +kernel
theorem d_Li_goOn_52 : decode b_Li_goOn 52 = .ok (.return_, 1) := by decide +kernel
theorem d_Li_goOn_53 : decode b_Li_goOn 53 = .ok (.aload_n 0, 1) := by decide +kernel
theorem d_Li_goOn_54 : decode b_Li_goOn 54 = .ok (.aload_n 1, 1) := by decide +kernel
theorem d_Li_goOn_55 : decode b_Li_goOn 55 = .ok (.iload 7, 2) := by decide +kernel
theorem d_Li_goOn_57 : decode b_Li_goOn 57 = .ok (.iload 8, 2) := by decide +kernel
theorem d_Li_goOn_59 : decode b_Li_goOn 59 = .ok (.aload_n 1, 1) := by decide +kernel
theorem d_Li_goOn_60 : decode b_Li_goOn 60 = .ok (.iload 6, 2) := by decide +kernel
theorem d_Li_goOn_62 : decode b_Li_goOn 62 = .ok (.invokevirtual 68, 3) := by decide +kernel
theorem d_Li_goOn_65 : decode b_Li_goOn 65 = .ok (.invokevirtual 71, 3) := by decide +kernel
theorem d_Li_goOn_68 : decode b_Li_goOn 68 = .ok (.iload 7, 2) := by decide +kernel
theorem d_Li_goOn_70 : decode b_Li_goOn 70 = .ok (.aload_n 1, 1) := by decide +kernel
theorem d_Li_goOn_71 : decode b_Li_goOn 71 = .ok (.getfield 75, 3) := by decide +kernel
theorem d_Li_goOn_74 : decode b_Li_goOn 74 = .ok (.iadd, 1) := by decide +kernel
theorem d_Li_goOn_75 : decode b_Li_goOn 75 = .ok (.istore 5, 2) := by decide +kernel
theorem d_Li_goOn_77 : decode b_Li_goOn 77 = .ok (.iinc 6 1, 3) := by decide +kernel
theorem d_Li_goOn_80 : decode b_Li_goOn 80 = .ok (.goto (-74), 3) := by decide +kernel
theorem d_Li_goOn_83 : decode b_Li_goOn 83 = .ok (.return_, 1) := by decide +kernel
theorem d_Li_put_0 : decode b_Li_put 0 = .ok (.aload_n 0, 1) := by decide +kernel
theorem d_Li_put_1 : decode b_Li_put 1 = .ok (.getfield 39, 3) := by decide +kernel
theorem d_Li_put_4 : decode b_Li_put 4 = .ok (.istore 5, 2) := by decide +kernel
theorem d_Li_put_6 : decode b_Li_put 6 = .ok (.iload 5, 2) := by decide +kernel
theorem d_Li_put_8 : decode b_Li_put 8 = .ok (.ifCond .le 17, 3) := by decide +kernel
theorem d_Li_put_11 : decode b_Li_put 11 = .ok (.aload_n 0, 1) := by decide +kernel
theorem d_Li_put_12 : decode b_Li_put 12 = .ok (.getfield 18, 3) := by decide +kernel
theorem d_Li_put_15 : decode b_Li_put 15 = .ok (.iload 5, 2) := by decide +kernel
theorem d_Li_put_17 : decode b_Li_put 17 = .ok (.iconst 1, 1) := by decide +kernel
theorem d_Li_put_18 : decode b_Li_put 18 = .ok (.isub, 1) := by decide +kernel
theorem d_Li_put_19 : decode b_Li_put 19 = .ok (.iaload, 1) := by decide +kernel
theorem d_Li_put_20 : decode b_Li_put 20 = .ok (.iconst 1, 1) := by decide +kernel
theorem d_Li_put_21 : decode b_Li_put 21 = .ok (.iadd, 1) := by decide +kernel
theorem d_Li_put_22 : decode b_Li_put 22 = .ok (.goto 4, 3) := by decide +kernel
theorem d_Li_put_25 : decode b_Li_put 25 = .ok (.iconst 1, 1) := by decide +kernel
theorem d_Li_put_26 : decode b_Li_put 26 = .ok (.istore 6, 2) := by decide +kernel
theorem d_Li_put_28 : decode b_Li_put 28 = .ok (.aload_n 0, 1) := by decide +kernel
theorem d_Li_put_29 : decode b_Li_put 29 = .ok (.getfield 9, 3) := by decide +kernel
theorem d_Li_put_32 : decode b_Li_put 32 = .ok (.iload 5, 2) := by decide +kernel
theorem d_Li_put_34 : decode b_Li_put 34 = .ok (.iload_n 2, 1) := by decide +kernel
theorem d_Li_put_35 : decode b_Li_put 35 = .ok (.iastore, 1) := by decide +kernel
theorem d_Li_put_36 : decode b_Li_put 36 = .ok (.aload_n 0, 1) := by decide +kernel
theorem d_Li_put_37 : decode b_Li_put 37 = .ok (.getfield 15, 3) := by decide +kernel
theorem d_Li_put_40 : decode b_Li_put 40 = .ok (.iload 5, 2) := by decide +kernel
theorem d_Li_put_42 : decode b_Li_put 42 = .ok (.iload_n 3, 1) := by decide +kernel
theorem d_Li_put_43 : decode b_Li_put 43 = .ok (.iastore, 1) := by decide +kernel
theorem d_Li_put_44 : decode b_Li_put 44 = .ok (.aload_n 0, 1) := by decide +kernel
theorem d_Li_put_45 : decode b_Li_put 45 = .ok (.getfield 18, 3) := by decide +kernel
theorem d_Li_put_48 : decode b_Li_put 48 = .ok (.iload 5, 2) := by decide +kernel
theorem d_Li_put_50 : decode b_Li_put 50 = .ok (.iload 6, 2) := by decide +kernel
theorem d_Li_put_52 : decode b_Li_put 52 = .ok (.iload 4, 2) := by decide +kernel
theorem d_Li_put_54 : decode b_Li_put 54 = .ok (.iadd, 1) := by decide +kernel
theorem d_Li_put_55 : decode b_Li_put 55 = .ok (.iconst 1, 1) := by decide +kernel
theorem d_Li_put_56 : decode b_Li_put 56 = .ok (.isub, 1) := by decide +kernel
theorem d_Li_put_57 : decode b_Li_put 57 = .ok (.iastore, 1) := by decide +kernel
theorem d_Li_put_58 : decode b_Li_put 58 = .ok (.aload_n 0, 1) := by decide +kernel
theorem d_Li_put_59 : decode b_Li_put 59 = .ok (.getfield 21, 3) := by decide +kernel
theorem d_Li_put_62 : decode b_Li_put 62 = .ok (.iload 5, 2) := by decide +kernel
theorem d_Li_put_64 : decode b_Li_put 64 = .ok (.iload 4, 2) := by decide +kernel
theorem d_Li_put_66 : decode b_Li_put 66 = .ok (.iastore, 1) := by decide +kernel
theorem d_Li_put_67 : decode b_Li_put 67 = .ok (.aload_n 0, 1) := by decide +kernel
theorem d_Li_put_68 : decode b_Li_put 68 = .ok (.getfield 24, 3) := by decide +kernel
theorem d_Li_put_71 : decode b_Li_put 71 = .ok (.iload 5, 2) := by decide +kernel
theorem d_Li_put_73 : decode b_Li_put 73 = .ok (.aload_n 1, 1) := by decide +kernel
theorem d_Li_put_74 : decode b_Li_put 74 = .ok (.iload 6, 2) := by decide +kernel
theorem d_Li_put_76 : decode b_Li_put 76 = .ok (.invokevirtual 78, 3) := by decide +kernel
theorem d_Li_put_79 : decode b_Li_put 79 = .ok (.iastore, 1) := by decide +kernel
theorem d_Li_put_80 : decode b_Li_put 80 = .ok (.aload_n 0, 1) := by decide +kernel
theorem d_Li_put_81 : decode b_Li_put 81 = .ok (.getfield 27, 3) := by decide +kernel
theorem d_Li_put_84 : decode b_Li_put 84 = .ok (.iload 5, 2) := by decide +kernel
theorem d_Li_put_86 : decode b_Li_put 86 = .ok (.iload 4, 2) := by decide +kernel
theorem d_Li_put_88 : decode b_Li_put 88 = .ok (.iconst 1, 1) := by decide +kernel
theorem d_Li_put_89 : decode b_Li_put 89 = .ok (.if_icmp .le 14, 3) := by decide +kernel
theorem d_Li_put_92 : decode b_Li_put 92 = .ok (.aload_n 1, 1) := by decide +kernel
theorem d_Li_put_93 : decode b_Li_put 93 = .ok (.iload 6, 2) := by decide +kernel
theorem d_Li_put_95 : decode b_Li_put 95 = .ok (.iconst 1, 1) := by decide +kernel
theorem d_Li_put_96 : decode b_Li_put 96 = .ok (.iadd, 1) := by decide +kernel
theorem d_Li_put_97 : decode b_Li_put 97 = .ok (.invokevirtual 78, 3) := by decide +kernel
theorem d_Li_put_100 : decode b_Li_put 100 = .ok (.goto 4, 3) := by decide +kernel
theorem d_Li_put_103 : decode b_Li_put 103 = .ok (.iconst 0, 1) := by decide +kernel
theorem d_Li_put_104 : decode b_Li_put 104 = .ok (.iastore, 1) := by decide +kernel
theorem d_Li_put_105 : decode b_Li_put 105 = .ok (.aload_n 0, 1) := by decide +kernel
theorem d_Li_put_106 : decode b_Li_put 106 = .ok (.getfield 30, 3) := by decide +kernel
theorem d_Li_put_109 : decode b_Li_put 109 = .ok (.iload 5, 2) := by decide +kernel
theorem d_Li_put_111 : decode b_Li_put 111 = .ok (.aload_n 1, 1) := by decide +kernel
theorem d_Li_put_112 : decode b_Li_put 112 = .ok (.iload 6, 2) := by decide +kernel
theorem d_Li_put_114 : decode b_Li_put 114 = .ok (.invokevirtual 81, 3) := by decide +kernel
theorem d_Li_put_117 : decode b_Li_put 117 = .ok (.iastore, 1) := by decide +kernel
theorem d_Li_put_118 : decode b_Li_put 118 = .ok (.aload_n 0, 1) := by decide +kernel
theorem d_Li_put_119 : decode b_Li_put 119 = .ok (.getfield 33, 3) := by decide +kernel
theorem d_Li_put_122 : decode b_Li_put 122 = .ok (.iload 5, 2) := by decide +kernel
theorem d_Li_put_124 : decode b_Li_put 124 = .ok (.aload_n 1, 1) := by decide +kernel
theorem d_Li_put_125 : decode b_Li_put 125 = .ok (.getfield 84, 3) := by decide +kernel
theorem d_Li_put_128 : decode b_Li_put 128 = .ok (.iastore, 1) := by decide +kernel
theorem d_Li_put_129 : decode b_Li_put 129 = .ok (.aload_n 0, 1) := by decide +kernel
theorem d_Li_put_130 : decode b_Li_put 130 = .ok (.getfield 36, 3) := by decide +kernel
theorem d_Li_put_133 : decode b_Li_put 133 = .ok (.iload 5, 2) := by decide +kernel
theorem d_Li_put_135 : decode b_Li_put 135 = .ok (.iconst (-1), 1) := by decide +kernel
theorem d_Li_put_136 : decode b_Li_put 136 = .ok (.iastore, 1) := by decide +kernel
theorem d_Li_put_137 : decode b_Li_put 137 = .ok (.aload_n 0, 1) := by decide +kernel
theorem d_Li_put_138 : decode b_Li_put 138 = .ok (.dup, 1) := by decide +kernel
theorem d_Li_put_139 : decode b_Li_put 139 = .ok (.getfield 39, 3) := by decide +kernel
theorem d_Li_put_142 : decode b_Li_put 142 = .ok (.iconst 1, 1) := by decide +kernel
theorem d_Li_put_143 : decode b_Li_put 143 = .ok (.iadd, 1) := by decide +kernel
theorem d_Li_put_144 : decode b_Li_put 144 = .ok (.putfield 39, 3) := by decide +kernel
theorem d_Li_put_147 : decode b_Li_put 147 = .ok (.return_, 1) := by decide +kernel
theorem d_Li_isOverdue_0 : decode b_Li_isOverdue 0 = .ok (.aload_n 0, 1) := by decide +kernel
theorem d_Li_isOverdue_1 : decode b_Li_isOverdue 1 = .ok (.iload_n 1, 1) := by decide +kernel
theorem d_Li_isOverdue_2 : decode b_Li_isOverdue 2 = .ok (.invokevirtual 53, 3) := by decide +kernel
theorem d_Li_isOverdue_5 : decode b_Li_isOverdue 5 = .ok (.ifCond .eq 17, 3) := by decide +kernel
theorem d_Li_isOverdue_8 : decode b_Li_isOverdue 8 = .ok (.aload_n 0, 1) := by decide +kernel
theorem d_Li_isOverdue_9 : decode b_Li_isOverdue 9 = .ok (.getfield 15, 3) := by decide +kernel
theorem d_Li_isOverdue_12 : decode b_Li_isOverdue 12 = .ok (.iload_n 1, 1) := by decide +kernel
theorem d_Li_isOverdue_13 : decode b_Li_isOverdue 13 = .ok (.iaload, 1) := by decide +kernel
theorem d_Li_isOverdue_14 : decode b_Li_isOverdue 14 = .ok (.iload_n 2, 1) := by decide +kernel
theorem d_Li_isOverdue_15 : decode b_Li_isOverdue 15 = .ok (.if_icmp .ge 7, 3) := by decide +kernel
theorem d_Li_isOverdue_18 : decode b_Li_isOverdue 18 = .ok (.iconst 1, 1) := by decide +kernel
theorem d_Li_isOverdue_19 : decode b_Li_isOverdue 19 = .ok (.goto 4, 3) := by decide +kernel
theorem d_Li_isOverdue_22 : decode b_Li_isOverdue 22 = .ok (.iconst 0, 1) := by decide +kernel
theorem d_Li_isOverdue_23 : decode b_Li_isOverdue 23 = .ok (.ireturn, 1) := by decide +kernel
theorem d_Li_countOverdue_0 : decode b_Li_countOverdue 0 = .ok (.iconst 0, 1) := by decide +kernel
theorem d_Li_countOverdue_1 : decode b_Li_countOverdue 1 = .ok (.istore_n 2, 1) := by decide +kernel
theorem d_Li_countOverdue_2 : decode b_Li_countOverdue 2 = .ok (.iconst 0, 1) := by decide +kernel
theorem d_Li_countOverdue_3 : decode b_Li_countOverdue 3 = .ok (.istore_n 3, 1) := by decide +kernel
theorem d_Li_countOverdue_4 : decode b_Li_countOverdue 4 = .ok (.iload_n 3, 1) := by decide +kernel
theorem d_Li_countOverdue_5 : decode b_Li_countOverdue 5 = .ok (.aload_n 0, 1) := by decide +kernel
theorem d_Li_countOverdue_6 : decode b_Li_countOverdue 6 = .ok (.getfield 39, 3) := by decide +kernel
theorem d_Li_countOverdue_9 : decode b_Li_countOverdue 9 = .ok (.if_icmp .ge 21, 3) := by decide +kernel
theorem d_Li_countOverdue_12 : decode b_Li_countOverdue 12 = .ok (.aload_n 0, 1) := by decide +kernel
theorem d_Li_countOverdue_13 : decode b_Li_countOverdue 13 = .ok (.iload_n 3, 1) := by decide +kernel
theorem d_Li_countOverdue_14 : decode b_Li_countOverdue 14 = .ok (.iload_n 1, 1) := by decide +kernel
theorem d_Li_countOverdue_15 : decode b_Li_countOverdue 15 = .ok (.invokevirtual 87, 3) := by decide +kernel
theorem d_Li_countOverdue_18 : decode b_Li_countOverdue 18 = .ok (.ifCond .eq 6, 3) := by decide +kernel
theorem d_Li_countOverdue_21 : decode b_Li_countOverdue 21 = .ok (.iinc 2 1, 3) := by decide +kernel
theorem d_Li_countOverdue_24 : decode b_Li_countOverdue 24 = .ok (.iinc 3 1, 3) := by decide +kernel
theorem d_Li_countOverdue_27 : decode b_Li_countOverdue 27 = .ok (.goto (-23), 3) := by decide +kernel
theorem d_Li_countOverdue_30 : decode b_Li_countOverdue 30 = .ok (.iload_n 2, 1) := by decide +kernel
theorem d_Li_countOverdue_31 : decode b_Li_countOverdue 31 = .ok (.ireturn, 1) := by decide +kernel
theorem d_Li_nextOverdue_0 : decode b_Li_nextOverdue 0 = .ok (.iconst (-1), 1) := by decide +kernel
theorem d_Li_nextOverdue_1 : decode b_Li_nextOverdue 1 = .ok (.istore_n 3, 1) := by decide +kernel
theorem d_Li_nextOverdue_2 : decode b_Li_nextOverdue 2 = .ok (.iconst 0, 1) := by decide +kernel
theorem d_Li_nextOverdue_3 : decode b_Li_nextOverdue 3 = .ok (.istore 4, 2) := by decide +kernel
theorem d_Li_nextOverdue_5 : decode b_Li_nextOverdue 5 = .ok (.iload 4, 2) := by decide +kernel
theorem d_Li_nextOverdue_7 : decode b_Li_nextOverdue 7 = .ok (.aload_n 0, 1) := by decide +kernel
theorem d_Li_nextOverdue_8 : decode b_Li_nextOverdue 8 = .ok (.getfield 39, 3) := by decide +kernel
theorem d_Li_nextOverdue_11 : decode b_Li_nextOverdue 11 = .ok (.if_icmp .ge 64, 3) := by decide +kernel
theorem d_Li_nextOverdue_14 : decode b_Li_nextOverdue 14 = .ok (.aload_n 0, 1) := by decide +kernel
theorem d_Li_nextOverdue_15 : decode b_Li_nextOverdue 15 = .ok (.iload 4, 2) := by decide +kernel
theorem d_Li_nextOverdue_17 : decode b_Li_nextOverdue 17 = .ok (.iload_n 1, 1) := by decide +kernel
theorem d_Li_nextOverdue_18 : decode b_Li_nextOverdue 18 = .ok (.invokevirtual 87, 3) := by decide +kernel
theorem d_Li_nextOverdue_21 : decode b_Li_nextOverdue 21 = .ok (.ifCond .eq 22, 3) := by decide +kernel
theorem d_Li_nextOverdue_24 : decode b_Li_nextOverdue 24 = .ok (.iload_n 2, 1) := by decide +kernel
theorem d_Li_nextOverdue_25 : decode b_Li_nextOverdue 25 = .ok (.iconst (-1), 1) := by decide +kernel
theorem d_Li_nextOverdue_26 : decode b_Li_nextOverdue 26 = .ok (.if_icmp .eq 13, 3) := by decide +kernel
theorem d_Li_nextOverdue_29 : decode b_Li_nextOverdue 29 = .ok (.aload_n 0, 1) := by decide +kernel
theorem d_Li_nextOverdue_30 : decode b_Li_nextOverdue 30 = .ok (.iload_n 2, 1) := by decide +kernel
theorem d_Li_nextOverdue_31 : decode b_Li_nextOverdue 31 = .ok (.iload 4, 2) := by decide +kernel
theorem d_Li_nextOverdue_33 : decode b_Li_nextOverdue 33 = .ok (.invokevirtual 91, 3) := by decide +kernel
theorem d_Li_nextOverdue_36 : decode b_Li_nextOverdue 36 = .ok (.ifCond .eq 7, 3) := by decide +kernel
theorem d_Li_nextOverdue_39 : decode b_Li_nextOverdue 39 = .ok (.iconst 1, 1) := by decide +kernel
theorem d_Li_nextOverdue_40 : decode b_Li_nextOverdue 40 = .ok (.goto 4, 3) := by decide +kernel
theorem d_Li_nextOverdue_43 : decode b_Li_nextOverdue 43 = .ok (.iconst 0, 1) := by decide +kernel
theorem d_Li_nextOverdue_44 : decode b_Li_nextOverdue 44 = .ok (.istore 5, 2) := by decide +kernel
theorem d_Li_nextOverdue_46 : decode b_Li_nextOverdue 46 = .ok (.iload 5, 2) := by decide +kernel
theorem d_Li_nextOverdue_48 : decode b_Li_nextOverdue 48 = .ok (.ifCond .eq 21, 3) := by decide +kernel
theorem d_Li_nextOverdue_51 : decode b_Li_nextOverdue 51 = .ok (.iload_n 3, 1) := by decide +kernel
theorem d_Li_nextOverdue_52 : decode b_Li_nextOverdue 52 = .ok (.iconst (-1), 1) := by decide +kernel
theorem d_Li_nextOverdue_53 : decode b_Li_nextOverdue 53 = .ok (.if_icmp .eq 13, 3) := by decide +kernel
theorem d_Li_nextOverdue_56 : decode b_Li_nextOverdue 56 = .ok (.aload_n 0, 1) := by decide +kernel
theorem d_Li_nextOverdue_57 : decode b_Li_nextOverdue 57 = .ok (.iload 4, 2) := by decide +kernel
theorem d_Li_nextOverdue_59 : decode b_Li_nextOverdue 59 = .ok (.iload_n 3, 1) := by decide +kernel
theorem d_Li_nextOverdue_60 : decode b_Li_nextOverdue 60 = .ok (.invokevirtual 91, 3) := by decide +kernel
theorem d_Li_nextOverdue_63 : decode b_Li_nextOverdue 63 = .ok (.ifCond .eq 6, 3) := by decide +kernel
theorem d_Li_nextOverdue_66 : decode b_Li_nextOverdue 66 = .ok (.iload 4, 2) := by decide +kernel
theorem d_Li_nextOverdue_68 : decode b_Li_nextOverdue 68 = .ok (.istore_n 3, 1) := by decide +kernel
theorem d_Li_nextOverdue_69 : decode b_Li_nextOverdue 69 = .ok (.iinc 4 1, 3) := by decide +kernel
theorem d_Li_nextOverdue_72 : decode b_Li_nextOverdue 72 = .ok (.goto (-67), 3) := by decide +kernel
theorem d_Li_nextOverdue_75 : decode b_Li_nextOverdue 75 = .ok (.iload_n 3, 1) := by decide +kernel
theorem d_Li_nextOverdue_76 : decode b_Li_nextOverdue 76 = .ok (.ireturn, 1) := by decide +kernel
theorem d_Li_isClaimedBefore_0 : decode b_Li_isClaimedBefore 0 = .ok (.aload_n 0, 1) := by decide +kernel
theorem d_Li_isClaimedBefore_1 : decode b_Li_isClaimedBefore 1 = .ok (.iload_n 1, 1) := by decide +kernel
theorem d_Li_isClaimedBefore_2 : decode b_Li_isClaimedBefore 2 = .ok (.invokevirtual 43, 3) := by decide +kernel
theorem d_Li_isClaimedBefore_5 : decode b_Li_isClaimedBefore 5 = .ok (.ifCond .eq 11, 3) := by decide +kernel
theorem d_Li_isClaimedBefore_8 : decode b_Li_isClaimedBefore 8 = .ok (.aload_n 0, 1) := by decide +kernel
theorem d_Li_isClaimedBefore_9 : decode b_Li_isClaimedBefore 9 = .ok (.iload_n 2, 1) := by decide +kernel
theorem d_Li_isClaimedBefore_10 : decode b_Li_isClaimedBefore 10 = .ok (.invokevirtual 43, 3) := by decide +kernel
theorem d_Li_isClaimedBefore_13 : decode b_Li_isClaimedBefore 13 = .ok (.ifCond .ne 5, 3) := by decide +kernel
theorem d_Li_isClaimedBefore_16 : decode b_Li_isClaimedBefore 16 = .ok (.iconst 0, 1) := by decide +kernel
theorem d_Li_isClaimedBefore_17 : decode b_Li_isClaimedBefore 17 = .ok (.ireturn, 1) := by decide +kernel
theorem d_Li_isClaimedBefore_18 : decode b_Li_isClaimedBefore 18 = .ok (.aload_n 0, 1) := by decide +kernel
theorem d_Li_isClaimedBefore_19 : decode b_Li_isClaimedBefore 19 = .ok (.getfield 15, 3) := by decide +kernel
theorem d_Li_isClaimedBefore_22 : decode b_Li_isClaimedBefore 22 = .ok (.iload_n 1, 1) := by decide +kernel
theorem d_Li_isClaimedBefore_23 : decode b_Li_isClaimedBefore 23 = .ok (.iaload, 1) := by decide +kernel
theorem d_Li_isClaimedBefore_24 : decode b_Li_isClaimedBefore 24 = .ok (.aload_n 0, 1) := by decide +kernel
theorem d_Li_isClaimedBefore_25 : decode b_Li_isClaimedBefore 25 = .ok (.getfield 15, 3) := by decide +kernel
theorem d_Li_isClaimedBefore_28 : decode b_Li_isClaimedBefore 28 = .ok (.iload_n 2, 1) := by decide +kernel
theorem d_Li_isClaimedBefore_29 : decode b_Li_isClaimedBefore 29 = .ok (.iaload, 1) := by decide +kernel
theorem d_Li_isClaimedBefore_30 : decode b_Li_isClaimedBefore 30 = .ok (.if_icmp .eq 26, 3) := by decide +kernel
theorem d_Li_isClaimedBefore_33 : decode b_Li_isClaimedBefore 33 = .ok (.aload_n 0, 1) := by decide +kernel
theorem d_Li_isClaimedBefore_34 : decode b_Li_isClaimedBefore 34 = .ok (.getfield 15, 3) := by decide +kernel
theorem d_Li_isClaimedBefore_37 : decode b_Li_isClaimedBefore 37 = .ok (.iload_n 1, 1) := by decide +kernel
theorem d_Li_isClaimedBefore_38 : decode b_Li_isClaimedBefore 38 = .ok (.iaload, 1) := by decide +kernel
theorem d_Li_isClaimedBefore_39 : decode b_Li_isClaimedBefore 39 = .ok (.aload_n 0, 1) := by decide +kernel
theorem d_Li_isClaimedBefore_40 : decode b_Li_isClaimedBefore 40 = .ok (.getfield 15, 3) := by decide +kernel
theorem d_Li_isClaimedBefore_43 : decode b_Li_isClaimedBefore 43 = .ok (.iload_n 2, 1) := by decide +kernel
theorem d_Li_isClaimedBefore_44 : decode b_Li_isClaimedBefore 44 = .ok (.iaload, 1) := by decide +kernel
theorem d_Li_isClaimedBefore_45 : decode b_Li_isClaimedBefore 45 = .ok (.if_icmp .ge 7, 3) := by decide +kernel
theorem d_Li_isClaimedBefore_48 : decode b_Li_isClaimedBefore 48 = .ok (.iconst 1, 1) := by decide +kernel
theorem d_Li_isClaimedBefore_49 : decode b_Li_isClaimedBefore 49 = .ok (.goto 17, 3) := by decide +kernel
theorem d_Li_isClaimedBefore_52 : decode b_Li_isClaimedBefore 52 = .ok (.iconst 0, 1) := by decide +kernel
theorem d_Li_isClaimedBefore_53 : decode b_Li_isClaimedBefore 53 = .ok (.goto 13, 3) := by decide +kernel
theorem d_Li_isClaimedBefore_56 : decode b_Li_isClaimedBefore 56 = .ok (.iload_n 1, 1) := by decide +kernel
theorem d_Li_isClaimedBefore_57 : decode b_Li_isClaimedBefore 57 = .ok (.iload_n 2, 1) := by decide +kernel
theorem d_Li_isClaimedBefore_58 : decode b_Li_isClaimedBefore 58 = .ok (.if_icmp .ge 7, 3) := by decide +kernel
theorem d_Li_isClaimedBefore_61 : decode b_Li_isClaimedBefore 61 = .ok (.iconst 1, 1) := by decide +kernel
theorem d_Li_isClaimedBefore_62 : decode b_Li_isClaimedBefore 62 = .ok (.goto 4, 3) := by decide +kernel
theorem d_Li_isClaimedBefore_65 : decode b_Li_isClaimedBefore 65 = .ok (.iconst 0, 1) := by decide +kernel
theorem d_Li_isClaimedBefore_66 : decode b_Li_isClaimedBefore 66 = .ok (.ireturn, 1) := by decide +kernel
end
section
/-! decode rows of PatternTextModel -/
theorem d_Mo_init_0 : decode b_Mo_init 0 = .ok (.aload_n 0, 1) := by decide +kernel
theorem d_Mo_init_1 : decode b_Mo_init 1 = .ok (.invokespecial 1, 3) := by decide +kernel
theorem d_Mo_init_4 : decode b_Mo_init 4 = .ok (.aload_n 0, 1) := by decide +kernel
theorem d_Mo_init_5 : decode b_Mo_init 5 = .ok (.bipush 120, 2) := by decide +kernel
theorem d_Mo_init_7 : decode b_Mo_init 7 = .ok (.newarray .byte, 2) := by decide +kernel
theorem d_Mo_init_9 : decode b_Mo_init 9 = .ok (.putfield 7, 3) := by decide +kernel
theorem d_Mo_init_12 : decode b_Mo_init 12 = .ok (.aload_n 0, 1) := by decide +kernel
theorem d_Mo_init_13 : decode b_Mo_init 13 = .ok (.bipush 11, 2) := by decide +kernel
theorem d_Mo_init_15 : decode b_Mo_init 15 = .ok (.newarray .int, 2) := by decide +kernel
theorem d_Mo_init_17 : decode b_Mo_init 17 = .ok (.putfield 13, 3) := by decide +kernel
theorem d_Mo_init_20 : decode b_Mo_init 20 = .ok (.aload_n 0, 1) := by decide +kernel
theorem d_Mo_init_21 : decode b_Mo_init 21 = .ok (.bipush 11, 2) := by decide +kernel
theorem d_Mo_init_23 : decode b_Mo_init 23 = .ok (.newarray .int, 2) := by decide +kernel
theorem d_Mo_init_25 : decode b_Mo_init 25 = .ok (.putfield 17, 3) := by decide +kernel
theorem d_Mo_init_28 : decode b_Mo_init 28 = .ok (.aload_n 0, 1) := by decide +kernel
theorem d_Mo_init_29 : decode b_Mo_init 29 = .ok (.bipush 11, 2) := by decide +kernel
theorem d_Mo_init_31 : decode b_Mo_init 31 = .ok (.newarray .int, 2) := by decide +kernel
theorem d_Mo_init_33 : decode b_Mo_init 33 = .ok (.putfield 20, 3) := by decide +kernel
theorem d_Mo_init_36 : decode b_Mo_init 36 = .ok (.aload_n 0, 1) := by decide +kernel
theorem d_Mo_init_37 : decode b_Mo_init 37 = .ok (.bipush 11, 2) := by decide +kernel
theorem d_Mo_init_39 : decode b_Mo_init 39 = .ok (.newarray .int, 2) := by decide +kernel
theorem d_Mo_init_41 : decode b_Mo_init 41 = .ok (.putfield 23, 3) := by decide +kernel
theorem d_Mo_init_44 : decode b_Mo_init 44 = .ok (.aload_n 0, 1) := by decide +kernel
theorem d_Mo_init_45 : decode b_Mo_init 45 = .ok (.bipush 11, 2) := by decide +kernel
theorem d_Mo_init_47 : decode b_Mo_init 47 = .ok (.newarray .boolean, 2) := by decide +kernel
theorem d_Mo_init_49 : decode b_Mo_init 49 = .ok (.putfield 26, 3) := by decide +kernel
theorem d_Mo_init_52 : decode b_Mo_init 52 = .ok (.aload_n 0, 1) := by decide +kernel
theorem d_Mo_init_53 : decode b_Mo_init 53 = .ok (.sipush 1200, 3) := by decide +kernel
theorem d_Mo_init_56 : decode b_Mo_init 56 = .ok (.newarray .byte, 2) := by decide +kernel
theorem d_Mo_init_58 : decode b_Mo_init 58 = .ok (.putfield 30, 3) := by decide +kernel
theorem d_Mo_init_61 : decode b_Mo_init 61 = .ok (.aload_n 0, 1) := by decide +kernel
theorem d_Mo_init_62 : decode b_Mo_init 62 = .ok (.bipush 10, 2) := by decide +kernel
theorem d_Mo_init_64 : decode b_Mo_init 64 = .ok (.newarray .int, 2) := by decide +kernel
theorem d_Mo_init_66 : decode b_Mo_init 66 = .ok (.putfield 33, 3) := by decide +kernel
theorem d_Mo_init_69 : decode b_Mo_init 69 = .ok (.aload_n 0, 1) := by decide +kernel
theorem d_Mo_init_70 : decode b_Mo_init 70 = .ok (.bipush 60, 2) := by decide +kernel
theorem d_Mo_init_72 : decode b_Mo_init 72 = .ok (.newarray .int, 2) := by decide +kernel
theorem d_Mo_init_74 : decode b_Mo_init 74 = .ok (.putfield 36, 3) := by decide +kernel
theorem d_Mo_init_77 : decode b_Mo_init 77 = .ok (.aload_n 0, 1) := by decide +kernel
theorem d_Mo_init_78 : decode b_Mo_init 78 = .ok (.bipush 100, 2) := by decide +kernel
theorem d_Mo_init_80 : decode b_Mo_init 80 = .ok (.newarray .int, 2) := by decide +kernel
theorem d_Mo_init_82 : decode b_Mo_init 82 = .ok (.putfield 39, 3) := by decide +kernel
theorem d_Mo_init_85 : decode b_Mo_init 85 = .ok (.aload_n 0, 1) := by decide +kernel
theorem d_Mo_init_86 : decode b_Mo_init 86 = .ok (.bipush 100, 2) := by decide +kernel
theorem d_Mo_init_88 : decode b_Mo_init 88 = .ok (.newarray .int, 2) := by decide +kernel
theorem d_Mo_init_90 : decode b_Mo_init 90 = .ok (.putfield 42, 3) := by decide +kernel
theorem d_Mo_init_93 : decode b_Mo_init 93 = .ok (.aload_n 0, 1) := by decide +kernel
theorem d_Mo_init_94 : decode b_Mo_init 94 = .ok (.bipush 100, 2) := by decide +kernel
theorem d_Mo_init_96 : decode b_Mo_init 96 = .ok (.newarray .int, 2) := by decide +kernel
theorem d_Mo_init_98 : decode b_Mo_init 98 = .ok (.putfield 45, 3) := by decide +kernel
theorem d_Mo_init_101 : decode b_Mo_init 101 = .ok (.aload_n 0, 1) := by decide +kernel
theorem d_Mo_init_102 : decode b_Mo_init 102 = .ok (.bipush 100, 2) := by decide +kernel
theorem d_Mo_init_104 : decode b_Mo_init 104 = .ok (.newarray .boolean, 2) := by decide +kernel
theorem d_Mo_init_106 : decode b_Mo_init 106 = .ok (.putfield 48, 3) := by decide +kernel
theorem d_Mo_init_109 : decode b_Mo_init 109 = .ok (.aload_n 0, 1) := by decide +kernel
theorem d_Mo_init_110 : decode b_Mo_init 110 = .ok (.bipush 100, 2) := by decide +kernel
theorem d_Mo_init_112 : decode b_Mo_init 112 = .ok (.newarray .int, 2) := by decide +kernel
theorem d_Mo_init_114 : decode b_Mo_init 114 = .ok (.putfield 51, 3) := by decide +kernel
theorem d_Mo_init_117 : decode b_Mo_init 117 = .ok (.aload_n 0, 1) := by decide +kernel
theorem d_Mo_init_118 : decode b_Mo_init 118 = .ok (.bipush 100, 2) := by decide +kernel
theorem d_Mo_init_120 : decode b_Mo_init 120 = .ok (.newarray .int, 2) := by decide +kernel
theorem d_Mo_init_122 : decode b_Mo_init 122 = .ok (.putfield 54, 3) := by decide +kernel
theorem d_Mo_init_125 : decode b_Mo_init 125 = .ok (.aload_n 0, 1) := by decide +kernel
theorem d_Mo_init_126 : decode b_Mo_init 126 = .ok (.bipush 120, 2) := by decide +kernel
theorem d_Mo_init_128 : decode b_Mo_init 128 = .ok (.newarray .byte, 2) := by decide +kernel
theorem d_Mo_init_130 : decode b_Mo_init 130 = .ok (.putfield 57, 3) := by decide +kernel
theorem d_Mo_init_133 : decode b_Mo_init 133 = .ok (.return_, 1) := by decide +kernel
theorem d_Mo_thrown_0 : decode b_Mo_thrown 0 = .ok (.aload_n 0, 1) := by decide +kernel
theorem d_Mo_thrown_1 : decode b_Mo_thrown 1 = .ok (.getfield 60, 3) := by decide +kernel
theorem d_Mo_thrown_4 : decode b_Mo_thrown 4 = .ok (.ireturn, 1) := by decide +kernel
theorem d_Mo_sign_0 : decode b_Mo_sign 0 = .ok (.aload_n 0, 1) := by decide +kernel
theorem d_Mo_sign_1 : decode b_Mo_sign 1 = .ok (.iconst 0, 1) := by decide +kernel
theorem d_Mo_sign_2 : decode b_Mo_sign 2 = .ok (.putfield 60, 3) := by decide +kernel
theorem d_Mo_sign_5 : decode b_Mo_sign 5 = .ok (.aload_n 0, 1) := by decide +kernel
theorem d_Mo_sign_6 : decode b_Mo_sign 6 = .ok (.getfield 64, 3) := by decide +kernel
theorem d_Mo_sign_9 : decode b_Mo_sign 9 = .ok (.bipush 120, 2) := by decide +kernel
theorem d_Mo_sign_11 : decode b_Mo_sign 11 = .ok (.if_icmp .ge 24, 3) := by decide +kernel
theorem d_Mo_sign_14 : decode b_Mo_sign 14 = .ok (.aload_n 0, 1) := by decide +kernel
theorem d_Mo_sign_15 : decode b_Mo_sign 15 = .ok (.getfield 7, 3) := by decide +kernel
theorem d_Mo_sign_18 : decode b_Mo_sign 18 = .ok (.aload_n 0, 1) := by decide +kernel
theorem d_Mo_sign_19 : decode b_Mo_sign 19 = .ok (.getfield 64, 3) := by decide +kernel
theorem d_Mo_sign_22 : decode b_Mo_sign 22 = .ok (.iload_n 1, 1) := by decide +kernel
theorem d_Mo_sign_23 : decode b_Mo_sign 23 = .ok (.i2b, 1) := by decide +kernel
theorem d_Mo_sign_24 : decode b_Mo_sign 24 = .ok (.bastore, 1) := by decide +kernel
theorem d_Mo_sign_25 : decode b_Mo_sign 25 = .ok (.aload_n 0, 1) := by decide +kernel
theorem d_Mo_sign_26 : decode b_Mo_sign 26 = .ok (.dup, 1) := by decide +kernel
theorem d_Mo_sign_27 : decode b_Mo_sign 27 = .ok (.getfield 64, 3) := by decide +kernel
theorem d_Mo_sign_30 : decode b_Mo_sign 30 = .ok (.iconst 1, 1) := by decide +kernel
theorem d_Mo_sign_31 : decode b_Mo_sign 31 = .ok (.iadd, 1) := by decide +kernel
theorem d_Mo_sign_32 : decode b_Mo_sign 32 = .ok (.putfield 64, 3) := by decide +kernel
theorem d_Mo_sign_35 : decode b_Mo_sign 35 = .ok (.return_, 1) := by decide +kernel
theorem d_Mo_look_0 : decode b_Mo_look 0 = .ok (.iload_n 1, 1) := by decide +kernel
theorem d_Mo_look_1 : decode b_Mo_look 1 = .ok (.aload_n 0, 1) := by decide +kernel
theorem d_Mo_look_2 : decode b_Mo_look 2 = .ok (.getfield 64, 3) := by decide +kernel
theorem d_Mo_look_5 : decode b_Mo_look 5 = .ok (.if_icmp .ge 16, 3) := by decide +kernel
theorem d_Mo_look_8 : decode b_Mo_look 8 = .ok (.aload_n 0, 1) := by decide +kernel
theorem d_Mo_look_9 : decode b_Mo_look 9 = .ok (.getfield 7, 3) := by decide +kernel
theorem d_Mo_look_12 : decode b_Mo_look 12 = .ok (.iload_n 1, 1) := by decide +kernel
theorem d_Mo_look_13 : decode b_Mo_look 13 = .ok (.baload, 1) := by decide +kernel
theorem d_Mo_look_14 : decode b_Mo_look 14 = .ok (.sipush 255, 3) := by decide +kernel
theorem d_Mo_look_17 : decode b_Mo_look 17 = .ok (.iand, 1) := by decide +kernel
theorem d_Mo_look_18 : decode b_Mo_look 18 = .ok (.goto 4, 3) := by decide +kernel
theorem d_Mo_look_21 : decode b_Mo_look 21 = .ok (.iconst (-1), 1) := by decide +kernel
theorem d_Mo_look_22 : decode b_Mo_look 22 = .ok (.ireturn, 1) := by decide +kernel
theorem d_Mo_bad_0 : decode b_Mo_bad 0 = .ok (.aload_n 0, 1) := by decide +kernel
theorem d_Mo_bad_1 : decode b_Mo_bad 1 = .ok (.iload_n 1, 1) := by decide +kernel
theorem d_Mo_bad_2 : decode b_Mo_bad 2 = .ok (.putfield 67, 3) := by decide +kernel
theorem d_Mo_bad_5 : decode b_Mo_bad 5 = .ok (.iconst 0, 1) := by decide +kernel
theorem d_Mo_bad_6 : decode b_Mo_bad 6 = .ok (.ireturn, 1) := by decide +kernel
theorem d_Mo_isDigit_0 : decode b_Mo_isDigit 0 = .ok (.iload_n 0, 1) := by decide +kernel
theorem d_Mo_isDigit_1 : decode b_Mo_isDigit 1 = .ok (.bipush 48, 2) := by decide +kernel
theorem d_Mo_isDigit_3 : decode b_Mo_isDigit 3 = .ok (.if_icmp .lt 13, 3) := by decide +kernel
theorem d_Mo_isDigit_6 : decode b_Mo_isDigit 6 = .ok (.iload_n 0, 1) := by decide +kernel
theorem d_Mo_isDigit_7 : decode b_Mo_isDigit 7 = .ok (.bipush 57, 2) := by decide +kernel
theorem d_Mo_isDigit_9 : decode b_Mo_isDigit 9 = .ok (.if_icmp .gt 7, 3) := by decide +kernel
theorem d_Mo_isDigit_12 : decode b_Mo_isDigit 12 = .ok (.iconst 1, 1) := by decide +kernel
theorem d_Mo_isDigit_13 : decode b_Mo_isDigit 13 = .ok (.goto 4, 3) := by decide +kernel
theorem d_Mo_isDigit_16 : decode b_Mo_isDigit 16 = .ok (.iconst 0, 1) := by decide +kernel
theorem d_Mo_isDigit_17 : decode b_Mo_isDigit 17 = .ok (.ireturn, 1) := by decide +kernel
theorem d_Mo_isLetter_0 : decode b_Mo_isLetter 0 = .ok (.iload_n 0, 1) := by decide +kernel
theorem d_Mo_isLetter_1 : decode b_Mo_isLetter 1 = .ok (.bipush 97, 2) := by decide +kernel
theorem d_Mo_isLetter_3 : decode b_Mo_isLetter 3 = .ok (.if_icmp .lt 13, 3) := by decide +kernel
theorem d_Mo_isLetter_6 : decode b_Mo_isLetter 6 = .ok (.iload_n 0, 1) := by decide +kernel
theorem d_Mo_isLetter_7 : decode b_Mo_isLetter 7 = .ok (.bipush 122, 2) := by decide +kernel
theorem d_Mo_isLetter_9 : decode b_Mo_isLetter 9 = .ok (.if_icmp .gt 7, 3) := by decide +kernel
theorem d_Mo_isLetter_12 : decode b_Mo_isLetter 12 = .ok (.iconst 1, 1) := by decide +kernel
theorem d_Mo_isLetter_13 : decode b_Mo_isLetter 13 = .ok (.goto 4, 3) := by decide +kernel
theorem d_Mo_isLetter_16 : decode b_Mo_isLetter 16 = .ok (.iconst 0, 1) := by decide +kernel
theorem d_Mo_isLetter_17 : decode b_Mo_isLetter 17 = .ok (.ireturn, 1) := by decide +kernel
theorem d_Mo_space_0 : decode b_Mo_space 0 = .ok (.aload_n 0, 1) := by decide +kernel
theorem d_Mo_space_1 : decode b_Mo_space 1 = .ok (.aload_n 0, 1) := by decide +kernel
theorem d_Mo_space_2 : decode b_Mo_space 2 = .ok (.getfield 70, 3) := by decide +kernel
theorem d_Mo_space_5 : decode b_Mo_space 5 = .ok (.invokevirtual 73, 3) := by decide +kernel
theorem d_Mo_space_8 : decode b_Mo_space 8 = .ok (.bipush 32, 2) := by decide +kernel
theorem d_Mo_space_10 : decode b_Mo_space 10 = .ok (.if_icmp .eq 12, 3) := by decide +kernel
theorem d_Mo_space_13 : decode b_Mo_space 13 = .ok (.aload_n 0, 1) := by decide +kernel
theorem d_Mo_space_14 : decode b_Mo_space 14 = .ok (.aload_n 0, 1) := by decide +kernel
theorem d_Mo_space_15 : decode b_Mo_space 15 = .ok (.getfield 70, 3) := by decide +kernel
theorem d_Mo_space_18 : decode b_Mo_space 18 = .ok (.invokevirtual 77, 3) := by decide +kernel
theorem d_Mo_space_21 : decode b_Mo_space 21 = .ok (.ireturn, 1) := by decide +kernel
theorem d_Mo_space_22 : decode b_Mo_space 22 = .ok (.aload_n 0, 1) := by decide +kernel
theorem d_Mo_space_23 : decode b_Mo_space 23 = .ok (.dup, 1) := by decide +kernel
theorem d_Mo_space_24 : decode b_Mo_space 24 = .ok (.getfield 70, 3) := by decide +kernel
theorem d_Mo_space_27 : decode b_Mo_space 27 = .ok (.iconst 1, 1) := by decide +kernel
theorem d_Mo_space_28 : decode b_Mo_space 28 = .ok (.iadd, 1) := by decide +kernel
theorem d_Mo_space_29 : decode b_Mo_space 29 = .ok (.putfield 70, 3) := by decide +kernel
theorem d_Mo_space_32 : decode b_Mo_space 32 = .ok (.iconst 1, 1) := by decide +kernel
theorem d_Mo_space_33 : decode b_Mo_space 33 = .ok (.ireturn, 1) := by decide +kernel
theorem d_Mo_word_0 : decode b_Mo_word 0 = .ok (.lconst 0, 1) := by decide +kernel
theorem d_Mo_word_1 : decode b_Mo_word 1 = .ok (.lstore_n 1, 1) := by decide +kernel
theorem d_Mo_word_2 : decode b_Mo_word 2 = .ok (.aload_n 0, 1) := by decide +kernel
theorem d_Mo_word_3 : decode b_Mo_word 3 = .ok (.getfield 70, 3) := by decide +kernel
theorem d_Mo_word_6 : decode b_Mo_word 6 = .ok (.istore_n 3, 1) := by decide +kernel
theorem d_Mo_word_7 : decode b_Mo_word 7 = .ok (.aload_n 0, 1) := by decide +kernel
theorem d_Mo_word_8 : decode b_Mo_word 8 = .ok (.iload_n 3, 1) := by decide +kernel
theorem d_Mo_word_9 : decode b_Mo_word 9 = .ok (.invokevirtual 73, 3) := by decide +kernel
theorem d_Mo_word_12 : decode b_Mo_word 12 = .ok (.invokestatic 81, 3) := by decide +kernel
theorem d_Mo_word_15 : decode b_Mo_word 15 = .ok (.ifCond .eq 53, 3) := by decide +kernel
theorem d_Mo_word_18 : decode b_Mo_word 18 = .ok (.iload_n 3, 1) := by decide +kernel
theorem d_Mo_word_19 : decode b_Mo_word 19 = .ok (.aload_n 0, 1) := by decide +kernel
theorem d_Mo_word_20 : decode b_Mo_word 20 = .ok (.getfield 70, 3) := by decide +kernel
theorem d_Mo_word_23 : decode b_Mo_word 23 = .ok (.isub, 1) := by decide +kernel
theorem d_Mo_word_24 : decode b_Mo_word 24 = .ok (.bipush 9, 2) := by decide +kernel
theorem d_Mo_word_26 : decode b_Mo_word 26 = .ok (.if_icmp .le 9, 3) := by decide +kernel
theorem d_Mo_word_29 : decode b_Mo_word 29 = .ok (.ldc2_w 84, 3) := by decide +kernel
theorem d_Mo_word_32 : decode b_Mo_word 32 = .ok (.goto 29, 3) := by decide +kernel
theorem d_Mo_word_35 : decode b_Mo_word 35 = .ok (.lload_n 1, 1) := by decide +kernel
theorem d_Mo_word_36 : decode b_Mo_word 36 = .ok (.lconst 0, 1) := by decide +kernel
theorem d_Mo_word_37 : decode b_Mo_word 37 = .ok (.lcmp, 1) := by decide +kernel
theorem d_Mo_word_38 : decode b_Mo_word 38 = .ok (.ifCond .ge 7, 3) := by decide +kernel
theorem d_Mo_word_41 : decode b_Mo_word 41 = .ok (.lload_n 1, 1) := by decide +kernel
theorem d_Mo_word_42 : decode b_Mo_word 42 = .ok (.goto 19, 3) := by decide +kernel
theorem d_Mo_word_45 : decode b_Mo_word 45 = .ok (.lload_n 1, 1) := by decide +kernel
theorem d_Mo_word_46 : decode b_Mo_word 46 = .ok (.ldc2_w 86, 3) := by decide +kernel
theorem d_Mo_word_49 : decode b_Mo_word 49 = .ok (.lmul, 1) := by decide +kernel
theorem d_Mo_word_50 : decode b_Mo_word 50 = .ok (.aload_n 0, 1) := by decide +kernel
theorem d_Mo_word_51 : decode b_Mo_word 51 = .ok (.iload_n 3, 1) := by decide +kernel
theorem d_Mo_word_52 : decode b_Mo_word 52 = .ok (.invokevirtual 73, 3) := by decide +kernel
theorem d_Mo_word_55 : decode b_Mo_word 55 = .ok (.i2l, 1) := by decide +kernel
theorem d_Mo_word_56 : decode b_Mo_word 56 = .ok (.ladd, 1) := by decide +kernel
theorem d_Mo_word_57 : decode b_Mo_word 57 = .ok (.ldc2_w 88, 3) := by decide +kernel
theorem d_Mo_word_60 : decode b_Mo_word 60 = .ok (.lsub, 1) := by decide +kernel
theorem d_Mo_word_61 : decode b_Mo_word 61 = .ok (.lstore_n 1, 1) := by decide +kernel
theorem d_Mo_word_62 : decode b_Mo_word 62 = .ok (.iinc 3 1, 3) := by decide +kernel
theorem d_Mo_word_65 : decode b_Mo_word 65 = .ok (.goto (-58), 3) := by decide +kernel
theorem d_Mo_word_68 : decode b_Mo_word 68 = .ok (.lload_n 1, 1) := by decide +kernel
theorem d_Mo_word_69 : decode b_Mo_word 69 = .ok (.lreturn, 1) := by decide +kernel
theorem d_Mo_pass_0 : decode b_Mo_pass 0 = .ok (.aload_n 0, 1) := by decide +kernel
theorem d_Mo_pass_1 : decode b_Mo_pass 1 = .ok (.aload_n 0, 1) := by decide +kernel
theorem d_Mo_pass_2 : decode b_Mo_pass 2 = .ok (.getfield 70, 3) := by decide +kernel
theorem d_Mo_pass_5 : decode b_Mo_pass 5 = .ok (.invokevirtual 73, 3) := by decide +kernel
theorem d_Mo_pass_8 : decode b_Mo_pass 8 = .ok (.invokestatic 81, 3) := by decide +kernel
theorem d_Mo_pass_11 : decode b_Mo_pass 11 = .ok (.ifCond .eq 16, 3) := by decide +kernel
theorem d_Mo_pass_14 : decode b_Mo_pass 14 = .ok (.aload_n 0, 1) := by decide +kernel
theorem d_Mo_pass_15 : decode b_Mo_pass 15 = .ok (.dup, 1) := by decide +kernel
theorem d_Mo_pass_16 : decode b_Mo_pass 16 = .ok (.getfield 70, 3) := by decide +kernel
theorem d_Mo_pass_19 : decode b_Mo_pass 19 = .ok (.iconst 1, 1) := by decide +kernel
theorem d_Mo_pass_20 : decode b_Mo_pass 20 = .ok (.iadd, 1) := by decide +kernel
theorem d_Mo_pass_21 : decode b_Mo_pass 21 = .ok (.putfield 70, 3) := by decide +kernel
theorem d_Mo_pass_24 : decode b_Mo_pass 24 = .ok (.goto (-24), 3) := by decide +kernel
theorem d_Mo_pass_27 : decode b_Mo_pass 27 = .ok (.return_, 1) := by decide +kernel
theorem d_Mo_number_0 : decode b_Mo_number 0 = .ok (.aload_n 0, 1) := by decide +kernel
theorem d_Mo_number_1 : decode b_Mo_number 1 = .ok (.getfield 70, 3) := by decide +kernel
theorem d_Mo_number_4 : decode b_Mo_number 4 = .ok (.istore_n 3, 1) := by decide +kernel
theorem d_Mo_number_5 : decode b_Mo_number 5 = .ok (.iconst 0, 1) := by decide +kernel
theorem d_Mo_number_6 : decode b_Mo_number 6 = .ok (.istore 4, 2) := by decide +kernel
theorem d_Mo_number_8 : decode b_Mo_number 8 = .ok (.aload_n 0, 1) := by decide +kernel
theorem d_Mo_number_9 : decode b_Mo_number 9 = .ok (.aload_n 0, 1) := by decide +kernel
theorem d_Mo_number_10 : decode b_Mo_number 10 = .ok (.getfield 70, 3) := by decide +kernel
theorem d_Mo_number_13 : decode b_Mo_number 13 = .ok (.invokevirtual 73, 3) := by decide +kernel
theorem d_Mo_number_16 : decode b_Mo_number 16 = .ok (.invokestatic 90, 3) := by decide +kernel
theorem d_Mo_number_19 : decode b_Mo_number 19 = .ok (.ifCond .eq 51, 3) := by decide +kernel
theorem d_Mo_number_22 : decode b_Mo_number 22 = .ok (.aload_n 0, 1) := by decide +kernel
theorem d_Mo_number_23 : decode b_Mo_number 23 = .ok (.getfield 70, 3) := by decide +kernel
theorem d_Mo_number_26 : decode b_Mo_number 26 = .ok (.iload_n 3, 1) := by decide +kernel
theorem d_Mo_number_27 : decode b_Mo_number 27 = .ok (.isub, 1) := by decide +kernel
theorem d_Mo_number_28 : decode b_Mo_number 28 = .ok (.iconst 2, 1) := by decide +kernel
theorem d_Mo_number_29 : decode b_Mo_number 29 = .ok (.if_icmp .le 9, 3) := by decide +kernel
theorem d_Mo_number_32 : decode b_Mo_number 32 = .ok (.sipush 999, 3) := by decide +kernel
theorem d_Mo_number_35 : decode b_Mo_number 35 = .ok (.goto 20, 3) := by decide +kernel
theorem d_Mo_number_38 : decode b_Mo_number 38 = .ok (.bipush 10, 2) := by decide +kernel
theorem d_Mo_number_40 : decode b_Mo_number 40 = .ok (.iload 4, 2) := by decide +kernel
theorem d_Mo_number_42 : decode b_Mo_number 42 = .ok (.imul, 1) := by decide +kernel
theorem d_Mo_number_43 : decode b_Mo_number 43 = .ok (.aload_n 0, 1) := by decide +kernel
theorem d_Mo_number_44 : decode b_Mo_number 44 = .ok (.aload_n 0, 1) := by decide +kernel
theorem d_Mo_number_45 : decode b_Mo_number 45 = .ok (.getfield 70, 3) := by decide +kernel
theorem d_Mo_number_48 : decode b_Mo_number 48 = .ok (.invokevirtual 73, 3) := by decide +kernel
theorem d_Mo_number_51 : decode b_Mo_number 51 = .ok (.iadd, 1) := by decide +kernel
theorem d_Mo_number_52 : decode b_Mo_number 52 = .ok (.bipush 48, 2) := by decide +kernel
theorem d_Mo_number_54 : decode b_Mo_number 54 = .ok (.isub, 1) := by decide +kernel
theorem d_Mo_number_55 : decode b_Mo_number 55 = .ok (.istore 4, 2) := by decide +kernel
theorem d_Mo_number_57 : decode b_Mo_number 57 = .ok (.aload_n 0, 1) := by decide +kernel
theorem d_Mo_number_58 : decode b_Mo_number 58 = .ok (.dup, 1) := by decide +kernel
theorem d_Mo_number_59 : decode b_Mo_number 59 = .ok (.getfield 70, 3) := by decide +kernel
theorem d_Mo_number_62 : decode b_Mo_number 62 = .ok (.iconst 1, 1) := by decide +kernel
theorem d_Mo_number_63 : decode b_Mo_number 63 = .ok (.iadd, 1) := by decide +kernel
theorem d_Mo_number_64 : decode b_Mo_number 64 = .ok (.putfield 70, 3) := by decide +kernel
theorem d_Mo_number_67 : decode b_Mo_number 67 = .ok (.goto (-59), 3) := by decide +kernel
theorem d_Mo_number_70 : decode b_Mo_number 70 = .ok (.aload_n 0, 1) := by decide +kernel
theorem d_Mo_number_71 : decode b_Mo_number 71 = .ok (.iload_n 3, 1) := by decide +kernel
theorem d_Mo_number_72 : decode b_Mo_number 72 = .ok (.invokevirtual 73, 3) := by decide +kernel
theorem d_Mo_number_75 : decode b_Mo_number 75 = .ok (.bipush 48, 2) := by decide +kernel
theorem d_Mo_number_77 : decode b_Mo_number 77 = .ok (.if_icmp .ne 17, 3) := by decide +kernel
theorem d_Mo_number_80 : decode b_Mo_number 80 = .ok (.aload_n 0, 1) := by decide +kernel
theorem d_Mo_number_81 : decode b_Mo_number 81 = .ok (.getfield 70, 3) := by decide +kernel
theorem d_Mo_number_84 : decode b_Mo_number 84 = .ok (.iload_n 3, 1) := by decide +kernel
theorem d_Mo_number_85 : decode b_Mo_number 85 = .ok (.isub, 1) := by decide +kernel
theorem d_Mo_number_86 : decode b_Mo_number 86 = .ok (.iconst 1, 1) := by decide +kernel
theorem d_Mo_number_87 : decode b_Mo_number 87 = .ok (.if_icmp .le 7, 3) := by decide +kernel
theorem d_Mo_number_90 : decode b_Mo_number 90 = .ok (.iconst 1, 1) := by decide +kernel
theorem d_Mo_number_91 : decode b_Mo_number 91 = .ok (.goto 4, 3) := by decide +kernel
theorem d_Mo_number_94 : decode b_Mo_number 94 = .ok (.iconst 0, 1) := by decide +kernel
theorem d_Mo_number_95 : decode b_Mo_number 95 = .ok (.istore 5, 2) := by decide +kernel
theorem d_Mo_number_97 : decode b_Mo_number 97 = .ok (.aload_n 0, 1) := by decide +kernel
theorem d_Mo_number_98 : decode b_Mo_number 98 = .ok (.getfield 70, 3) := by decide +kernel
theorem d_Mo_number_101 : decode b_Mo_number 101 = .ok (.iload_n 3, 1) := by decide +kernel
theorem d_Mo_number_102 : decode b_Mo_number 102 = .ok (.if_icmp .eq 30, 3) := by decide +kernel
theorem d_Mo_number_105 : decode b_Mo_number 105 = .ok (.iload 5, 2) := by decide +kernel
theorem d_Mo_number_107 : decode b_Mo_number 107 = .ok (.ifCond .ne 25, 3) := by decide +kernel
theorem d_Mo_number_110 : decode b_Mo_number 110 = .ok (.aload_n 0, 1) := by decide +kernel
theorem d_Mo_number_111 : decode b_Mo_number 111 = .ok (.getfield 70, 3) := by decide +kernel
theorem d_Mo_number_114 : decode b_Mo_number 114 = .ok (.iload_n 3, 1) := by decide +kernel
theorem d_Mo_number_115 : decode b_Mo_number 115 = .ok (.isub, 1) := by decide +kernel
theorem d_Mo_number_116 : decode b_Mo_number 116 = .ok (.iconst 2, 1) := by decide +kernel
theorem d_Mo_number_117 : decode b_Mo_number 117 = .ok (.if_icmp .gt 15, 3) := by decide +kernel
theorem d_Mo_number_120 : decode b_Mo_number 120 = .ok (.iload 4, 2) := by decide +kernel
theorem d_Mo_number_122 : decode b_Mo_number 122 = .ok (.iload_n 1, 1) := by decide +kernel
theorem d_Mo_number_123 : decode b_Mo_number 123 = .ok (.if_icmp .lt 9, 3) := by decide +kernel
theorem d_Mo_number_126 : decode b_Mo_number 126 = .ok (.iload 4, 2) := by decide +kernel
theorem d_Mo_number_128 : decode b_Mo_number 128 = .ok (.iload_n 2, 1) := by decide +kernel
theorem d_Mo_number_129 : decode b_Mo_number 129 = .ok (.if_icmp .le 10, 3) := by decide +kernel
theorem d_Mo_number_132 : decode b_Mo_number 132 = .ok (.aload_n 0, 1) := by decide +kernel
theorem d_Mo_number_133 : decode b_Mo_number 133 = .ok (.iload_n 3, 1) := by decide +kernel
theorem d_Mo_number_134 : decode b_Mo_number 134 = .ok (.putfield 67, 3) := by decide +kernel
theorem d_Mo_number_137 : decode b_Mo_number 137 = .ok (.iconst (-1), 1) := by decide +kernel
theorem d_Mo_number_138 : decode b_Mo_number 138 = .ok (.ireturn, 1) := by decide +kernel
theorem d_Mo_number_139 : decode b_Mo_number 139 = .ok (.iload 4, 2) := by decide +kernel
theorem d_Mo_number_141 : decode b_Mo_number 141 = .ok (.ireturn, 1) := by decide +kernel
theorem d_Mo_every_0 : decode b_Mo_every 0 = .ok (.aload_n 0, 1) := by decide +kernel
theorem d_Mo_every_1 : decode b_Mo_every 1 = .ok (.invokevirtual 93, 3) := by decide +kernel
theorem d_Mo_every_4 : decode b_Mo_every 4 = .ok (.ldc2_w 97, 3) := by decide +kernel
theorem d_Mo_every_7 : decode b_Mo_every 7 = .ok (.lcmp, 1) := by decide +kernel
theorem d_Mo_every_8 : decode b_Mo_every 8 = .ok (.ifCond .eq 12, 3) := by decide +kernel
theorem d_Mo_every_11 : decode b_Mo_every 11 = .ok (.aload_n 0, 1) := by decide +kernel
theorem d_Mo_every_12 : decode b_Mo_every 12 = .ok (.aload_n 0, 1) := by decide +kernel
theorem d_Mo_every_13 : decode b_Mo_every 13 = .ok (.getfield 70, 3) := by decide +kernel
theorem d_Mo_every_16 : decode b_Mo_every 16 = .ok (.invokevirtual 77, 3) := by decide +kernel
theorem d_Mo_every_19 : decode b_Mo_every 19 = .ok (.ireturn, 1) := by decide +kernel
theorem d_Mo_every_20 : decode b_Mo_every 20 = .ok (.aload_n 0, 1) := by decide +kernel
theorem d_Mo_every_21 : decode b_Mo_every 21 = .ok (.invokevirtual 99, 3) := by decide +kernel
theorem d_Mo_every_24 : decode b_Mo_every 24 = .ok (.aload_n 0, 1) := by decide +kernel
theorem d_Mo_every_25 : decode b_Mo_every 25 = .ok (.invokevirtual 102, 3) := by decide +kernel
theorem d_Mo_every_28 : decode b_Mo_every 28 = .ok (.ifCond .ne 5, 3) := by decide +kernel
theorem d_Mo_every_31 : decode b_Mo_every 31 = .ok (.iconst 0, 1) := by decide +kernel
theorem d_Mo_every_32 : decode b_Mo_every 32 = .ok (.ireturn, 1) := by decide +kernel
theorem d_Mo_every_33 : decode b_Mo_every 33 = .ok (.aload_n 0, 1) := by decide +kernel
theorem d_Mo_every_34 : decode b_Mo_every 34 = .ok (.iconst 1, 1) := by decide +kernel
theorem d_Mo_every_35 : decode b_Mo_every 35 = .ok (.bipush 99, 2) := by decide +kernel
theorem d_Mo_every_37 : decode b_Mo_every 37 = .ok (.invokevirtual 106, 3) := by decide +kernel
theorem d_Mo_every_40 : decode b_Mo_every 40 = .ok (.istore_n 2, 1) := by decide +kernel
theorem d_Mo_every_41 : decode b_Mo_every 41 = .ok (.iload_n 2, 1) := by decide +kernel
theorem d_Mo_every_42 : decode b_Mo_every 42 = .ok (.ifCond .lt 10, 3) := by decide +kernel
theorem d_Mo_every_45 : decode b_Mo_every 45 = .ok (.aload_n 0, 1) := by decide +kernel
theorem d_Mo_every_46 : decode b_Mo_every 46 = .ok (.invokevirtual 102, 3) := by decide +kernel
theorem d_Mo_every_49 : decode b_Mo_every 49 = .ok (.ifCond .ne 5, 3) := by decide +kernel
theorem d_Mo_every_52 : decode b_Mo_every 52 = .ok (.iconst 0, 1) := by decide +kernel
theorem d_Mo_every_53 : decode b_Mo_every 53 = .ok (.ireturn, 1) := by decide +kernel
theorem d_Mo_every_54 : decode b_Mo_every 54 = .ok (.aload_n 0, 1) := by decide +kernel
theorem d_Mo_every_55 : decode b_Mo_every 55 = .ok (.invokevirtual 93, 3) := by decide +kernel
theorem d_Mo_every_58 : decode b_Mo_every 58 = .ok (.lstore_n 3, 1) := by decide +kernel
theorem d_Mo_every_59 : decode b_Mo_every 59 = .ok (.lload_n 3, 1) := by decide +kernel
theorem d_Mo_every_60 : decode b_Mo_every 60 = .ok (.ldc2_w 110, 3) := by decide +kernel
theorem d_Mo_every_63 : decode b_Mo_every 63 = .ok (.lcmp, 1) := by decide +kernel
theorem d_Mo_every_64 : decode b_Mo_every 64 = .ok (.ifCond .ne 7, 3) := by decide +kernel
theorem d_Mo_every_67 : decode b_Mo_every 67 = .ok (.iconst 1, 1) := by decide +kernel
theorem d_Mo_every_68 : decode b_Mo_every 68 = .ok (.goto 30, 3) := by decide +kernel
theorem d_Mo_every_71 : decode b_Mo_every 71 = .ok (.lload_n 3, 1) := by decide +kernel
theorem d_Mo_every_72 : decode b_Mo_every 72 = .ok (.ldc2_w 112, 3) := by decide +kernel
theorem d_Mo_every_75 : decode b_Mo_every 75 = .ok (.lcmp, 1) := by decide +kernel
theorem d_Mo_every_76 : decode b_Mo_every 76 = .ok (.ifCond .ne 8, 3) := by decide +kernel
theorem d_Mo_every_79 : decode b_Mo_every 79 = .ok (.bipush 7, 2) := by decide +kernel
theorem d_Mo_every_81 : decode b_Mo_every 81 = .ok (.goto 17, 3) := by decide +kernel
theorem d_Mo_every_84 : decode b_Mo_every 84 = .ok (.lload_n 3, 1) := by decide +kernel
theorem d_Mo_every_85 : decode b_Mo_every 85 = .ok (.ldc2_w 114, 3) := by decide +kernel
theorem d_Mo_every_88 : decode b_Mo_every 88 = .ok (.lcmp, 1) := by decide +kernel
theorem d_Mo_every_89 : decode b_Mo_every 89 = .ok (.ifCond .ne 8, 3) := by decide +kernel
theorem d_Mo_every_92 : decode b_Mo_every 92 = .ok (.bipush 30, 2) := by decide +kernel
theorem d_Mo_every_94 : decode b_Mo_every 94 = .ok (.goto 4, 3) := by decide +kernel
theorem d_Mo_every_97 : decode b_Mo_every 97 = .ok (.iconst 0, 1) := by decide +kernel
theorem d_Mo_every_98 : decode b_Mo_every 98 = .ok (.istore 5, 2) := by decide +kernel
theorem d_Mo_every_100 : decode b_Mo_every 100 = .ok (.iload 5, 2) := by decide +kernel
theorem d_Mo_every_102 : decode b_Mo_every 102 = .ok (.ifCond .ne 12, 3) := by decide +kernel
theorem d_Mo_every_105 : decode b_Mo_every 105 = .ok (.aload_n 0, 1) := by decide +kernel
theorem d_Mo_every_106 : decode b_Mo_every 106 = .ok (.aload_n 0, 1) := by decide +kernel
theorem d_Mo_every_107 : decode b_Mo_every 107 = .ok (.getfield 70, 3) := by decide +kernel
theorem d_Mo_every_110 : decode b_Mo_every 110 = .ok (.invokevirtual 77, 3) := by decide +kernel
theorem d_Mo_every_113 : decode b_Mo_every 113 = .ok (.ireturn, 1) := by decide +kernel
theorem d_Mo_every_114 : decode b_Mo_every 114 = .ok (.aload_n 0, 1) := by decide +kernel
theorem d_Mo_every_115 : decode b_Mo_every 115 = .ok (.invokevirtual 99, 3) := by decide +kernel
theorem d_Mo_every_118 : decode b_Mo_every 118 = .ok (.aload_n 0, 1) := by decide +kernel
theorem d_Mo_every_119 : decode b_Mo_every 119 = .ok (.getfield 13, 3) := by decide +kernel
theorem d_Mo_every_122 : decode b_Mo_every 122 = .ok (.iload_n 1, 1) := by decide +kernel
theorem d_Mo_every_123 : decode b_Mo_every 123 = .ok (.iload_n 2, 1) := by decide +kernel
theorem d_Mo_every_124 : decode b_Mo_every 124 = .ok (.iload 5, 2) := by decide +kernel
theorem d_Mo_every_126 : decode b_Mo_every 126 = .ok (.imul, 1) := by decide +kernel
theorem d_Mo_every_127 : decode b_Mo_every 127 = .ok (.iastore, 1) := by decide +kernel
theorem d_Mo_every_128 : decode b_Mo_every 128 = .ok (.iconst 1, 1) := by decide +kernel
theorem d_Mo_every_129 : decode b_Mo_every 129 = .ok (.ireturn, 1) := by decide +kernel
theorem d_Mo_skip_0 : decode b_Mo_skip 0 = .ok (.iconst (-1), 1) := by decide +kernel
theorem d_Mo_skip_1 : decode b_Mo_skip 1 = .ok (.istore_n 2, 1) := by decide +kernel
theorem d_Mo_skip_2 : decode b_Mo_skip 2 = .ok (.iconst 1, 1) := by decide +kernel
theorem d_Mo_skip_3 : decode b_Mo_skip 3 = .ok (.istore_n 3, 1) := by decide +kernel
theorem d_Mo_skip_4 : decode b_Mo_skip 4 = .ok (.iload_n 3, 1) := by decide +kernel
theorem d_Mo_skip_5 : decode b_Mo_skip 5 = .ok (.ifCond .eq 98, 3) := by decide +kernel
theorem d_Mo_skip_8 : decode b_Mo_skip 8 = .ok (.aload_n 0, 1) := by decide +kernel
theorem d_Mo_skip_9 : decode b_Mo_skip 9 = .ok (.getfield 70, 3) := by decide +kernel
theorem d_Mo_skip_12 : decode b_Mo_skip 12 = .ok (.istore 4, 2) := by decide +kernel
theorem d_Mo_skip_14 : decode b_Mo_skip 14 = .ok (.aload_n 0, 1) := by decide +kernel
theorem d_Mo_skip_15 : decode b_Mo_skip 15 = .ok (.iconst 0, 1) := by decide +kernel
theorem d_Mo_skip_16 : decode b_Mo_skip 16 = .ok (.bipush 11, 2) := by decide +kernel
theorem d_Mo_skip_18 : decode b_Mo_skip 18 = .ok (.invokevirtual 106, 3) := by decide +kernel
theorem d_Mo_skip_21 : decode b_Mo_skip 21 = .ok (.istore 5, 2) := by decide +kernel
theorem d_Mo_skip_23 : decode b_Mo_skip 23 = .ok (.iload 5, 2) := by decide +kernel
theorem d_Mo_skip_25 : decode b_Mo_skip 25 = .ok (.ifCond .ge 5, 3) := by decide +kernel
theorem d_Mo_skip_28 : decode b_Mo_skip 28 = .ok (.iconst 0, 1) := by decide +kernel
theorem d_Mo_skip_29 : decode b_Mo_skip 29 = .ok (.ireturn, 1) := by decide +kernel
theorem d_Mo_skip_30 : decode b_Mo_skip 30 = .ok (.iload 5, 2) := by decide +kernel
theorem d_Mo_skip_32 : decode b_Mo_skip 32 = .ok (.iload_n 2, 1) := by decide +kernel
theorem d_Mo_skip_33 : decode b_Mo_skip 33 = .ok (.if_icmp .gt 10, 3) := by decide +kernel
theorem d_Mo_skip_36 : decode b_Mo_skip 36 = .ok (.aload_n 0, 1) := by decide +kernel
theorem d_Mo_skip_37 : decode b_Mo_skip 37 = .ok (.iload 4, 2) := by decide +kernel
theorem d_Mo_skip_39 : decode b_Mo_skip 39 = .ok (.invokevirtual 77, 3) := by decide +kernel
theorem d_Mo_skip_42 : decode b_Mo_skip 42 = .ok (.ireturn, 1) := by decide +kernel
theorem d_Mo_skip_43 : decode b_Mo_skip 43 = .ok (.aload_n 0, 1) := by decide +kernel
theorem d_Mo_skip_44 : decode b_Mo_skip 44 = .ok (.getfield 17, 3) := by decide +kernel
theorem d_Mo_skip_47 : decode b_Mo_skip 47 = .ok (.iload_n 1, 1) := by decide +kernel
theorem d_Mo_skip_48 : decode b_Mo_skip 48 = .ok (.aload_n 0, 1) := by decide +kernel
theorem d_Mo_skip_49 : decode b_Mo_skip 49 = .ok (.getfield 17, 3) := by decide +kernel
theorem d_Mo_skip_52 : decode b_Mo_skip 52 = .ok (.iload_n 1, 1) := by decide +kernel
theorem d_Mo_skip_53 : decode b_Mo_skip 53 = .ok (.iaload, 1) := by decide +kernel
theorem d_Mo_skip_54 : decode b_Mo_skip 54 = .ok (.iconst 1, 1) := by decide +kernel
theorem d_Mo_skip_55 : decode b_Mo_skip 55 = .ok (.iload 5, 2) := by decide +kernel
theorem d_Mo_skip_57 : decode b_Mo_skip 57 = .ok (.ishl, 1) := by decide +kernel
theorem d_Mo_skip_58 : decode b_Mo_skip 58 = .ok (.ior, 1) := by decide +kernel
theorem d_Mo_skip_59 : decode b_Mo_skip 59 = .ok (.iastore, 1) := by decide +kernel
theorem d_Mo_skip_60 : decode b_Mo_skip 60 = .ok (.iload 5, 2) := by decide +kernel
theorem d_Mo_skip_62 : decode b_Mo_skip 62 = .ok (.istore_n 2, 1) := by decide +kernel
theorem d_Mo_skip_63 : decode b_Mo_skip 63 = .ok (.aload_n 0, 1) := by decide +kernel
theorem d_Mo_skip_64 : decode b_Mo_skip 64 = .ok (.aload_n 0, 1) := by decide +kernel
theorem d_Mo_skip_65 : decode b_Mo_skip 65 = .ok (.getfield 70, 3) := by decide +kernel
theorem d_Mo_skip_68 : decode b_Mo_skip 68 = .ok (.invokevirtual 73, 3) := by decide +kernel
theorem d_Mo_skip_71 : decode b_Mo_skip 71 = .ok (.bipush 44, 2) := by decide +kernel
theorem d_Mo_skip_73 : decode b_Mo_skip 73 = .ok (.if_icmp .ne 7, 3) := by decide +kernel
theorem d_Mo_skip_76 : decode b_Mo_skip 76 = .ok (.iconst 1, 1) := by decide +kernel
theorem d_Mo_skip_77 : decode b_Mo_skip 77 = .ok (.goto 4, 3) := by decide +kernel
theorem d_Mo_skip_80 : decode b_Mo_skip 80 = .ok (.iconst 0, 1) := by decide +kernel
theorem d_Mo_skip_81 : decode b_Mo_skip 81 = .ok (.istore_n 3, 1) := by decide +kernel
theorem d_Mo_skip_82 : decode b_Mo_skip 82 = .ok (.aload_n 0, 1) := by decide +kernel
theorem d_Mo_skip_83 : decode b_Mo_skip 83 = .ok (.dup, 1) := by decide +kernel
theorem d_Mo_skip_84 : decode b_Mo_skip 84 = .ok (.getfield 70, 3) := by decide +kernel
theorem d_Mo_skip_87 : decode b_Mo_skip 87 = .ok (.iload_n 3, 1) := by decide +kernel
theorem d_Mo_skip_88 : decode b_Mo_skip 88 = .ok (.ifCond .eq 7, 3) := by decide +kernel
theorem d_Mo_skip_91 : decode b_Mo_skip 91 = .ok (.iconst 1, 1) := by decide +kernel
theorem d_Mo_skip_92 : decode b_Mo_skip 92 = .ok (.goto 4, 3) := by decide +kernel
theorem d_Mo_skip_95 : decode b_Mo_skip 95 = .ok (.iconst 0, 1) := by decide +kernel
theorem d_Mo_skip_96 : decode b_Mo_skip 96 = .ok (.iadd, 1) := by decide +kernel
theorem d_Mo_skip_97 : decode b_Mo_skip 97 = .ok (.putfield 70, 3) := by decide +kernel
theorem d_Mo_skip_100 : decode b_Mo_skip 100 = .ok (.goto (-96), 3) := by decide +kernel
theorem d_Mo_skip_103 : decode b_Mo_skip 103 = .ok (.iconst 1, 1) := by decide +kernel
theorem d_Mo_skip_104 : decode b_Mo_skip 104 = .ok (.ireturn, 1) := by decide +kernel
theorem d_Mo_reads_0 : decode b_Mo_reads 0 = .ok (.aload_n 0, 1) := by decide +kernel
theorem d_Mo_reads_1 : decode b_Mo_reads 1 = .ok (.getfield 17, 3) := by decide +kernel
theorem d_Mo_reads_4 : decode b_Mo_reads 4 = .ok (.iload_n 1, 1) := by decide +kernel
theorem d_Mo_reads_5 : decode b_Mo_reads 5 = .ok (.iconst 0, 1) := by decide +kernel
theorem d_Mo_reads_6 : decode b_Mo_reads 6 = .ok (.iastore, 1) := by decide +kernel
theorem d_Mo_reads_7 : decode b_Mo_reads 7 = .ok (.aload_n 0, 1) := by decide +kernel
theorem d_Mo_reads_8 : decode b_Mo_reads 8 = .ok (.getfield 20, 3) := by decide +kernel
theorem d_Mo_reads_11 : decode b_Mo_reads 11 = .ok (.iload_n 1, 1) := by decide +kernel
theorem d_Mo_reads_12 : decode b_Mo_reads 12 = .ok (.iconst 0, 1) := by decide +kernel
theorem d_Mo_reads_13 : decode b_Mo_reads 13 = .ok (.iastore, 1) := by decide +kernel
theorem d_Mo_reads_14 : decode b_Mo_reads 14 = .ok (.aload_n 0, 1) := by decide +kernel
theorem d_Mo_reads_15 : decode b_Mo_reads 15 = .ok (.getfield 23, 3) := by decide +kernel
theorem d_Mo_reads_18 : decode b_Mo_reads 18 = .ok (.iload_n 1, 1) := by decide +kernel
theorem d_Mo_reads_19 : decode b_Mo_reads 19 = .ok (.iconst 0, 1) := by decide +kernel
theorem d_Mo_reads_20 : decode b_Mo_reads 20 = .ok (.iastore, 1) := by decide +kernel
theorem d_Mo_reads_21 : decode b_Mo_reads 21 = .ok (.aload_n 0, 1) := by decide +kernel
theorem d_Mo_reads_22 : decode b_Mo_reads 22 = .ok (.getfield 26, 3) := by decide +kernel
theorem d_Mo_reads_25 : decode b_Mo_reads 25 = .ok (.iload_n 1, 1) := by decide +kernel
theorem d_Mo_reads_26 : decode b_Mo_reads 26 = .ok (.iconst 0, 1) := by decide +kernel
theorem d_Mo_reads_27 : decode b_Mo_reads 27 = .ok (.bastore, 1) := by decide +kernel
theorem d_Mo_reads_28 : decode b_Mo_reads 28 = .ok (.aload_n 0, 1) := by decide +kernel
theorem d_Mo_reads_29 : decode b_Mo_reads 29 = .ok (.iconst 0, 1) := by decide +kernel
theorem d_Mo_reads_30 : decode b_Mo_reads 30 = .ok (.putfield 70, 3) := by decide +kernel
theorem d_Mo_reads_33 : decode b_Mo_reads 33 = .ok (.aload_n 0, 1) := by decide +kernel
theorem d_Mo_reads_34 : decode b_Mo_reads 34 = .ok (.iload_n 1, 1) := by decide +kernel
theorem d_Mo_reads_35 : decode b_Mo_reads 35 = .ok (.invokevirtual 116, 3) := by decide +kernel
theorem d_Mo_reads_38 : decode b_Mo_reads 38 = .ok (.ifCond .ne 5, 3) := by decide +kernel
theorem d_Mo_reads_41 : decode b_Mo_reads 41 = .ok (.iconst 0, 1) := by decide +kernel
theorem d_Mo_reads_42 : decode b_Mo_reads 42 = .ok (.ireturn, 1) := by decide +kernel
theorem d_Mo_reads_43 : decode b_Mo_reads 43 = .ok (.iconst 0, 1) := by decide +kernel
theorem d_Mo_reads_44 : decode b_Mo_reads 44 = .ok (.istore_n 2, 1) := by decide +kernel
theorem d_Mo_reads_45 : decode b_Mo_reads 45 = .ok (.aload_n 0, 1) := by decide +kernel
theorem d_Mo_reads_46 : decode b_Mo_reads 46 = .ok (.getfield 70, 3) := by decide +kernel
theorem d_Mo_reads_49 : decode b_Mo_reads 49 = .ok (.aload_n 0, 1) := by decide +kernel
theorem d_Mo_reads_50 : decode b_Mo_reads 50 = .ok (.getfield 64, 3) := by decide +kernel
theorem d_Mo_reads_53 : decode b_Mo_reads 53 = .ok (.if_icmp .ge 196, 3) := by decide +kernel
theorem d_Mo_reads_56 : decode b_Mo_reads 56 = .ok (.aload_n 0, 1) := by decide +kernel
theorem d_Mo_reads_57 : decode b_Mo_reads 57 = .ok (.invokevirtual 102, 3) := by decide +kernel
theorem d_Mo_reads_60 : decode b_Mo_reads 60 = .ok (.ifCond .ne 5, 3) := by decide +kernel
theorem d_Mo_reads_63 : decode b_Mo_reads 63 = .ok (.iconst 0, 1) := by decide +kernel
theorem d_Mo_reads_64 : decode b_Mo_reads 64 = .ok (.ireturn, 1) := by decide +kernel
theorem d_Mo_reads_65 : decode b_Mo_reads 65 = .ok (.aload_n 0, 1) := by decide +kernel
theorem d_Mo_reads_66 : decode b_Mo_reads 66 = .ok (.invokevirtual 93, 3) := by decide +kernel
theorem d_Mo_reads_69 : decode b_Mo_reads 69 = .ok (.lstore_n 3, 1) := by decide +kernel
theorem d_Mo_reads_70 : decode b_Mo_reads 70 = .ok (.lload_n 3, 1) := by decide +kernel
theorem d_Mo_reads_71 : decode b_Mo_reads 71 = .ok (.ldc2_w 119, 3) := by decide +kernel
theorem d_Mo_reads_74 : decode b_Mo_reads 74 = .ok (.lcmp, 1) := by decide +kernel
theorem d_Mo_reads_75 : decode b_Mo_reads 75 = .ok (.ifCond .ne 7, 3) := by decide +kernel
theorem d_Mo_reads_78 : decode b_Mo_reads 78 = .ok (.iconst 1, 1) := by decide +kernel
theorem d_Mo_reads_79 : decode b_Mo_reads 79 = .ok (.goto 40, 3) := by decide +kernel
theorem d_Mo_reads_82 : decode b_Mo_reads 82 = .ok (.lload_n 3, 1) := by decide +kernel
theorem d_Mo_reads_83 : decode b_Mo_reads 83 = .ok (.ldc2_w 121, 3) := by decide +kernel
theorem d_Mo_reads_86 : decode b_Mo_reads 86 = .ok (.lcmp, 1) := by decide +kernel
theorem d_Mo_reads_87 : decode b_Mo_reads 87 = .ok (.ifCond .ne 7, 3) := by decide +kernel
theorem d_Mo_reads_90 : decode b_Mo_reads 90 = .ok (.iconst 2, 1) := by decide +kernel
theorem d_Mo_reads_91 : decode b_Mo_reads 91 = .ok (.goto 28, 3) := by decide +kernel
theorem d_Mo_reads_94 : decode b_Mo_reads 94 = .ok (.lload_n 3, 1) := by decide +kernel
theorem d_Mo_reads_95 : decode b_Mo_reads 95 = .ok (.ldc2_w 123, 3) := by decide +kernel
theorem d_Mo_reads_98 : decode b_Mo_reads 98 = .ok (.lcmp, 1) := by decide +kernel
theorem d_Mo_reads_99 : decode b_Mo_reads 99 = .ok (.ifCond .ne 7, 3) := by decide +kernel
theorem d_Mo_reads_102 : decode b_Mo_reads 102 = .ok (.iconst 3, 1) := by decide +kernel
theorem d_Mo_reads_103 : decode b_Mo_reads 103 = .ok (.goto 16, 3) := by decide +kernel
theorem d_Mo_reads_106 : decode b_Mo_reads 106 = .ok (.lload_n 3, 1) := by decide +kernel
theorem d_Mo_reads_107 : decode b_Mo_reads 107 = .ok (.ldc2_w 125, 3) := by decide +kernel
theorem d_Mo_reads_110 : decode b_Mo_reads 110 = .ok (.lcmp, 1) := by decide +kernel
theorem d_Mo_reads_111 : decode b_Mo_reads 111 = .ok (.ifCond .ne 7, 3) := by decide +kernel
theorem d_Mo_reads_114 : decode b_Mo_reads 114 = .ok (.iconst 4, 1) := by decide +kernel
theorem d_Mo_reads_115 : decode b_Mo_reads 115 = .ok (.goto 4, 3) := by decide +kernel
theorem d_Mo_reads_118 : decode b_Mo_reads 118 = .ok (.iconst 0, 1) := by decide +kernel
theorem d_Mo_reads_119 : decode b_Mo_reads 119 = .ok (.istore 5, 2) := by decide +kernel
theorem d_Mo_reads_121 : decode b_Mo_reads 121 = .ok (.iload 5, 2) := by decide +kernel
theorem d_Mo_reads_123 : decode b_Mo_reads 123 = .ok (.iload_n 2, 1) := by decide +kernel
theorem d_Mo_reads_124 : decode b_Mo_reads 124 = .ok (.if_icmp .le 14, 3) := by decide +kernel
theorem d_Mo_reads_127 : decode b_Mo_reads 127 = .ok (.iload 5, 2) := by decide +kernel
theorem d_Mo_reads_129 : decode b_Mo_reads 129 = .ok (.iconst 4, 1) := by decide +kernel
theorem d_Mo_reads_130 : decode b_Mo_reads 130 = .ok (.if_icmp .ne 17, 3) := by decide +kernel
theorem d_Mo_reads_133 : decode b_Mo_reads 133 = .ok (.iload_n 2, 1) := by decide +kernel
theorem d_Mo_reads_134 : decode b_Mo_reads 134 = .ok (.iconst 3, 1) := by decide +kernel
theorem d_Mo_reads_135 : decode b_Mo_reads 135 = .ok (.if_icmp .eq 12, 3) := by decide +kernel
theorem d_Mo_reads_138 : decode b_Mo_reads 138 = .ok (.aload_n 0, 1) := by decide +kernel
theorem d_Mo_reads_139 : decode b_Mo_reads 139 = .ok (.aload_n 0, 1) := by decide +kernel
theorem d_Mo_reads_140 : decode b_Mo_reads 140 = .ok (.getfield 70, 3) := by decide +kernel
theorem d_Mo_reads_143 : decode b_Mo_reads 143 = .ok (.invokevirtual 77, 3) := by decide +kernel
theorem d_Mo_reads_146 : decode b_Mo_reads 146 = .ok (.ireturn, 1) := by decide +kernel
theorem d_Mo_reads_147 : decode b_Mo_reads 147 = .ok (.aload_n 0, 1) := by decide +kernel
theorem d_Mo_reads_148 : decode b_Mo_reads 148 = .ok (.invokevirtual 99, 3) := by decide +kernel
theorem d_Mo_reads_151 : decode b_Mo_reads 151 = .ok (.iload 5, 2) := by decide +kernel
theorem d_Mo_reads_153 : decode b_Mo_reads 153 = .ok (.istore_n 2, 1) := by decide +kernel
theorem d_Mo_reads_154 : decode b_Mo_reads 154 = .ok (.iload 5, 2) := by decide +kernel
theorem d_Mo_reads_156 : decode b_Mo_reads 156 = .ok (.iconst 4, 1) := by decide +kernel
theorem d_Mo_reads_157 : decode b_Mo_reads 157 = .ok (.if_icmp .ne 13, 3) := by decide +kernel
theorem d_Mo_reads_160 : decode b_Mo_reads 160 = .ok (.aload_n 0, 1) := by decide +kernel
theorem d_Mo_reads_161 : decode b_Mo_reads 161 = .ok (.getfield 26, 3) := by decide +kernel
theorem d_Mo_reads_164 : decode b_Mo_reads 164 = .ok (.iload_n 1, 1) := by decide +kernel
theorem d_Mo_reads_165 : decode b_Mo_reads 165 = .ok (.iconst 1, 1) := by decide +kernel
theorem d_Mo_reads_166 : decode b_Mo_reads 166 = .ok (.bastore, 1) := by decide +kernel
theorem d_Mo_reads_167 : decode b_Mo_reads 167 = .ok (.goto 79, 3) := by decide +kernel
theorem d_Mo_reads_170 : decode b_Mo_reads 170 = .ok (.aload_n 0, 1) := by decide +kernel
theorem d_Mo_reads_171 : decode b_Mo_reads 171 = .ok (.invokevirtual 102, 3) := by decide +kernel
theorem d_Mo_reads_174 : decode b_Mo_reads 174 = .ok (.ifCond .ne 5, 3) := by decide +kernel
theorem d_Mo_reads_177 : decode b_Mo_reads 177 = .ok (.iconst 0, 1) := by decide +kernel
theorem d_Mo_reads_178 : decode b_Mo_reads 178 = .ok (.ireturn, 1) := by decide +kernel
theorem d_Mo_reads_179 : decode b_Mo_reads 179 = .ok (.iload 5, 2) := by decide +kernel
theorem d_Mo_reads_181 : decode b_Mo_reads 181 = .ok (.iconst 1, 1) := by decide +kernel
theorem d_Mo_reads_182 : decode b_Mo_reads 182 = .ok (.if_icmp .ne 13, 3) := by decide +kernel
theorem d_Mo_reads_185 : decode b_Mo_reads 185 = .ok (.aload_n 0, 1) := by decide +kernel
theorem d_Mo_reads_186 : decode b_Mo_reads 186 = .ok (.iload_n 1, 1) := by decide +kernel
theorem d_Mo_reads_187 : decode b_Mo_reads 187 = .ok (.invokevirtual 127, 3) := by decide +kernel
theorem d_Mo_reads_190 : decode b_Mo_reads 190 = .ok (.ifCond .ne 56, 3) := by decide +kernel
theorem d_Mo_reads_193 : decode b_Mo_reads 193 = .ok (.iconst 0, 1) := by decide +kernel
theorem d_Mo_reads_194 : decode b_Mo_reads 194 = .ok (.ireturn, 1) := by decide +kernel
theorem d_Mo_reads_195 : decode b_Mo_reads 195 = .ok (.aload_n 0, 1) := by decide +kernel
theorem d_Mo_reads_196 : decode b_Mo_reads 196 = .ok (.iload 5, 2) := by decide +kernel
theorem d_Mo_reads_198 : decode b_Mo_reads 198 = .ok (.iconst 2, 1) := by decide +kernel
theorem d_Mo_reads_199 : decode b_Mo_reads 199 = .ok (.if_icmp .ne 7, 3) := by decide +kernel
theorem d_Mo_reads_202 : decode b_Mo_reads 202 = .ok (.iconst 2, 1) := by decide +kernel
theorem d_Mo_reads_203 : decode b_Mo_reads 203 = .ok (.goto 4, 3) := by decide +kernel
theorem d_Mo_reads_206 : decode b_Mo_reads 206 = .ok (.iconst 1, 1) := by decide +kernel
theorem d_Mo_reads_207 : decode b_Mo_reads 207 = .ok (.bipush 99, 2) := by decide +kernel
theorem d_Mo_reads_209 : decode b_Mo_reads 209 = .ok (.invokevirtual 106, 3) := by decide +kernel
theorem d_Mo_reads_212 : decode b_Mo_reads 212 = .ok (.istore 6, 2) := by decide +kernel
theorem d_Mo_reads_214 : decode b_Mo_reads 214 = .ok (.iload 6, 2) := by decide +kernel
theorem d_Mo_reads_216 : decode b_Mo_reads 216 = .ok (.ifCond .ge 5, 3) := by decide +kernel
theorem d_Mo_reads_219 : decode b_Mo_reads 219 = .ok (.iconst 0, 1) := by decide +kernel
theorem d_Mo_reads_220 : decode b_Mo_reads 220 = .ok (.ireturn, 1) := by decide +kernel
theorem d_Mo_reads_221 : decode b_Mo_reads 221 = .ok (.iload 5, 2) := by decide +kernel
theorem d_Mo_reads_223 : decode b_Mo_reads 223 = .ok (.iconst 2, 1) := by decide +kernel
theorem d_Mo_reads_224 : decode b_Mo_reads 224 = .ok (.if_icmp .ne 14, 3) := by decide +kernel
theorem d_Mo_reads_227 : decode b_Mo_reads 227 = .ok (.aload_n 0, 1) := by decide +kernel
theorem d_Mo_reads_228 : decode b_Mo_reads 228 = .ok (.getfield 20, 3) := by decide +kernel
theorem d_Mo_reads_231 : decode b_Mo_reads 231 = .ok (.iload_n 1, 1) := by decide +kernel
theorem d_Mo_reads_232 : decode b_Mo_reads 232 = .ok (.iload 6, 2) := by decide +kernel
theorem d_Mo_reads_234 : decode b_Mo_reads 234 = .ok (.iastore, 1) := by decide +kernel
theorem d_Mo_reads_235 : decode b_Mo_reads 235 = .ok (.goto 11, 3) := by decide +kernel
theorem d_Mo_reads_238 : decode b_Mo_reads 238 = .ok (.aload_n 0, 1) := by decide +kernel
theorem d_Mo_reads_239 : decode b_Mo_reads 239 = .ok (.getfield 23, 3) := by decide +kernel
theorem d_Mo_reads_242 : decode b_Mo_reads 242 = .ok (.iload_n 1, 1) := by decide +kernel
theorem d_Mo_reads_243 : decode b_Mo_reads 243 = .ok (.iload 6, 2) := by decide +kernel
theorem d_Mo_reads_245 : decode b_Mo_reads 245 = .ok (.iastore, 1) := by decide +kernel
theorem d_Mo_reads_246 : decode b_Mo_reads 246 = .ok (.goto (-201), 3) := by decide +kernel
theorem d_Mo_reads_249 : decode b_Mo_reads 249 = .ok (.iconst 1, 1) := by decide +kernel
theorem d_Mo_reads_250 : decode b_Mo_reads 250 = .ok (.ireturn, 1) := by decide +kernel
theorem d_Mo_read_0 : decode b_Mo_read 0 = .ok (.aload_n 0, 1) := by decide +kernel
theorem d_Mo_read_1 : decode b_Mo_read 1 = .ok (.iconst 0, 1) := by decide +kernel
theorem d_Mo_read_2 : decode b_Mo_read 2 = .ok (.putfield 60, 3) := by decide +kernel
theorem d_Mo_read_5 : decode b_Mo_read 5 = .ok (.aload_n 0, 1) := by decide +kernel
theorem d_Mo_read_6 : decode b_Mo_read 6 = .ok (.aload_n 0, 1) := by decide +kernel
theorem d_Mo_read_7 : decode b_Mo_read 7 = .ok (.getfield 130, 3) := by decide +kernel
theorem d_Mo_read_10 : decode b_Mo_read 10 = .ok (.invokevirtual 133, 3) := by decide +kernel
theorem d_Mo_read_13 : decode b_Mo_read 13 = .ok (.istore_n 1, 1) := by decide +kernel
theorem d_Mo_read_14 : decode b_Mo_read 14 = .ok (.aload_n 0, 1) := by decide +kernel
theorem d_Mo_read_15 : decode b_Mo_read 15 = .ok (.getfield 64, 3) := by decide +kernel
theorem d_Mo_read_18 : decode b_Mo_read 18 = .ok (.istore_n 2, 1) := by decide +kernel
theorem d_Mo_read_19 : decode b_Mo_read 19 = .ok (.aload_n 0, 1) := by decide +kernel
theorem d_Mo_read_20 : decode b_Mo_read 20 = .ok (.iconst 0, 1) := by decide +kernel
theorem d_Mo_read_21 : decode b_Mo_read 21 = .ok (.putfield 64, 3) := by decide +kernel
theorem d_Mo_read_24 : decode b_Mo_read 24 = .ok (.iload_n 1, 1) := by decide +kernel
theorem d_Mo_read_25 : decode b_Mo_read 25 = .ok (.ifCond .ne 10, 3) := by decide +kernel
theorem d_Mo_read_28 : decode b_Mo_read 28 = .ok (.iconst (-1), 1) := by decide +kernel
theorem d_Mo_read_29 : decode b_Mo_read 29 = .ok (.aload_n 0, 1) := by decide +kernel
theorem d_Mo_read_30 : decode b_Mo_read 30 = .ok (.getfield 67, 3) := by decide +kernel
theorem d_Mo_read_33 : decode b_Mo_read 33 = .ok (.isub, 1) := by decide +kernel
theorem d_Mo_read_34 : decode b_Mo_read 34 = .ok (.ireturn, 1) := by decide +kernel
theorem d_Mo_read_35 : decode b_Mo_read 35 = .ok (.aload_n 0, 1) := by decide +kernel
theorem d_Mo_read_36 : decode b_Mo_read 36 = .ok (.getfield 130, 3) := by decide +kernel
theorem d_Mo_read_39 : decode b_Mo_read 39 = .ok (.bipush 10, 2) := by decide +kernel
theorem d_Mo_read_41 : decode b_Mo_read 41 = .ok (.if_icmp .ne 7, 3) := by decide +kernel
theorem d_Mo_read_44 : decode b_Mo_read 44 = .ok (.sipush (-200), 3) := by decide +kernel
theorem d_Mo_read_47 : decode b_Mo_read 47 = .ok (.ireturn, 1) := by decide +kernel
theorem d_Mo_read_48 : decode b_Mo_read 48 = .ok (.iconst 0, 1) := by decide +kernel
theorem d_Mo_read_49 : decode b_Mo_read 49 = .ok (.istore_n 3, 1) := by decide +kernel
theorem d_Mo_read_50 : decode b_Mo_read 50 = .ok (.iload_n 3, 1) := by decide +kernel
theorem d_Mo_read_51 : decode b_Mo_read 51 = .ok (.iload_n 2, 1) := by decide +kernel
theorem d_Mo_read_52 : decode b_Mo_read 52 = .ok (.if_icmp .ge 29, 3) := by decide +kernel
theorem d_Mo_read_55 : decode b_Mo_read 55 = .ok (.aload_n 0, 1) := by decide +kernel
theorem d_Mo_read_56 : decode b_Mo_read 56 = .ok (.getfield 30, 3) := by decide +kernel
theorem d_Mo_read_59 : decode b_Mo_read 59 = .ok (.bipush 120, 2) := by decide +kernel
theorem d_Mo_read_61 : decode b_Mo_read 61 = .ok (.aload_n 0, 1) := by decide +kernel
theorem d_Mo_read_62 : decode b_Mo_read 62 = .ok (.getfield 130, 3) := by decide +kernel
theorem d_Mo_read_65 : decode b_Mo_read 65 = .ok (.imul, 1) := by decide +kernel
theorem d_Mo_read_66 : decode b_Mo_read 66 = .ok (.iload_n 3, 1) := by decide +kernel
theorem d_Mo_read_67 : decode b_Mo_read 67 = .ok (.iadd, 1) := by decide +kernel
theorem d_Mo_read_68 : decode b_Mo_read 68 = .ok (.aload_n 0, 1) := by decide +kernel
theorem d_Mo_read_69 : decode b_Mo_read 69 = .ok (.getfield 7, 3) := by decide +kernel
theorem d_Mo_read_72 : decode b_Mo_read 72 = .ok (.iload_n 3, 1) := by decide +kernel
theorem d_Mo_read_73 : decode b_Mo_read 73 = .ok (.baload, 1) := by decide +kernel
theorem d_Mo_read_74 : decode b_Mo_read 74 = .ok (.bastore, 1) := by decide +kernel
theorem d_Mo_read_75 : decode b_Mo_read 75 = .ok (.iinc 3 1, 3) := by decide +kernel
theorem d_Mo_read_78 : decode b_Mo_read 78 = .ok (.goto (-28), 3) := by decide +kernel
theorem d_Mo_read_81 : decode b_Mo_read 81 = .ok (.aload_n 0, 1) := by decide +kernel
theorem d_Mo_read_82 : decode b_Mo_read 82 = .ok (.getfield 33, 3) := by decide +kernel
theorem d_Mo_read_85 : decode b_Mo_read 85 = .ok (.aload_n 0, 1) := by decide +kernel
theorem d_Mo_read_86 : decode b_Mo_read 86 = .ok (.getfield 130, 3) := by decide +kernel
theorem d_Mo_read_89 : decode b_Mo_read 89 = .ok (.iload_n 2, 1) := by decide +kernel
theorem d_Mo_read_90 : decode b_Mo_read 90 = .ok (.iastore, 1) := by decide +kernel
theorem d_Mo_read_91 : decode b_Mo_read 91 = .ok (.aload_n 0, 1) := by decide +kernel
theorem d_Mo_read_92 : decode b_Mo_read 92 = .ok (.dup, 1) := by decide +kernel
theorem d_Mo_read_93 : decode b_Mo_read 93 = .ok (.getfield 130, 3) := by decide +kernel
theorem d_Mo_read_96 : decode b_Mo_read 96 = .ok (.iconst 1, 1) := by decide +kernel
theorem d_Mo_read_97 : decode b_Mo_read 97 = .ok (.iadd, 1) := by decide +kernel
theorem d_Mo_read_98 : decode b_Mo_read 98 = .ok (.putfield 130, 3) := by decide +kernel
theorem d_Mo_read_101 : decode b_Mo_read 101 = .ok (.aload_n 0, 1) := by decide +kernel
theorem d_Mo_read_102 : decode b_Mo_read 102 = .ok (.getfield 130, 3) := by decide +kernel
theorem d_Mo_read_105 : decode b_Mo_read 105 = .ok (.iconst 1, 1) := by decide +kernel
theorem d_Mo_read_106 : decode b_Mo_read 106 = .ok (.isub, 1) := by decide +kernel
theorem d_Mo_read_107 : decode b_Mo_read 107 = .ok (.ireturn, 1) := by decide +kernel
theorem d_Mo_isPattern_0 : decode b_Mo_isPattern 0 = .ok (.iload_n 1, 1) := by decide +kernel
theorem d_Mo_isPattern_1 : decode b_Mo_isPattern 1 = .ok (.ifCond .lt 15, 3) := by decide +kernel
theorem d_Mo_isPattern_4 : decode b_Mo_isPattern 4 = .ok (.iload_n 1, 1) := by decide +kernel
theorem d_Mo_isPattern_5 : decode b_Mo_isPattern 5 = .ok (.aload_n 0, 1) := by decide +kernel
theorem d_Mo_isPattern_6 : decode b_Mo_isPattern 6 = .ok (.getfield 130, 3) := by decide +kernel
theorem d_Mo_isPattern_9 : decode b_Mo_isPattern 9 = .ok (.if_icmp .ge 7, 3) := by decide +kernel
theorem d_Mo_isPattern_12 : decode b_Mo_isPattern 12 = .ok (.iconst 1, 1) := by decide +kernel
theorem d_Mo_isPattern_13 : decode b_Mo_isPattern 13 = .ok (.goto 4, 3) := by decide +kernel
theorem d_Mo_isPattern_16 : decode b_Mo_isPattern 16 = .ok (.iconst 0, 1) := by decide +kernel
theorem d_Mo_isPattern_17 : decode b_Mo_isPattern 17 = .ok (.ireturn, 1) := by decide +kernel
theorem d_Mo_isDay_0 : decode b_Mo_isDay 0 = .ok (.iload_n 0, 1) := by decide +kernel
theorem d_Mo_isDay_1 : decode b_Mo_isDay 1 = .ok (.ifCond .lt 13, 3) := by decide +kernel
theorem d_Mo_isDay_4 : decode b_Mo_isDay 4 = .ok (.iload_n 0, 1) := by decide +kernel
theorem d_Mo_isDay_5 : decode b_Mo_isDay 5 = .ok (.ldc 136, 2) := by decide +kernel
theorem d_Mo_isDay_7 : decode b_Mo_isDay 7 = .ok (.if_icmp .gt 7, 3) := by decide +kernel
theorem d_Mo_isDay_10 : decode b_Mo_isDay 10 = .ok (.iconst 1, 1) := by decide +kernel
theorem d_Mo_isDay_11 : decode b_Mo_isDay 11 = .ok (.goto 4, 3) := by decide +kernel
theorem d_Mo_isDay_14 : decode b_Mo_isDay 14 = .ok (.iconst 0, 1) := by decide +kernel
theorem d_Mo_isDay_15 : decode b_Mo_isDay 15 = .ok (.ireturn, 1) := by decide +kernel
theorem d_Mo_isHoliday_0 : decode b_Mo_isHoliday 0 = .ok (.iconst 0, 1) := by decide +kernel
theorem d_Mo_isHoliday_1 : decode b_Mo_isHoliday 1 = .ok (.istore_n 2, 1) := by decide +kernel
theorem d_Mo_isHoliday_2 : decode b_Mo_isHoliday 2 = .ok (.iconst 0, 1) := by decide +kernel
theorem d_Mo_isHoliday_3 : decode b_Mo_isHoliday 3 = .ok (.istore_n 3, 1) := by decide +kernel
theorem d_Mo_isHoliday_4 : decode b_Mo_isHoliday 4 = .ok (.iload_n 3, 1) := by decide +kernel
theorem d_Mo_isHoliday_5 : decode b_Mo_isHoliday 5 = .ok (.aload_n 0, 1) := by decide +kernel
theorem d_Mo_isHoliday_6 : decode b_Mo_isHoliday 6 = .ok (.getfield 137, 3) := by decide +kernel
theorem d_Mo_isHoliday_9 : decode b_Mo_isHoliday 9 = .ok (.if_icmp .ge 29, 3) := by decide +kernel
theorem d_Mo_isHoliday_12 : decode b_Mo_isHoliday 12 = .ok (.iload_n 2, 1) := by decide +kernel
theorem d_Mo_isHoliday_13 : decode b_Mo_isHoliday 13 = .ok (.ifCond .ne 13, 3) := by decide +kernel
theorem d_Mo_isHoliday_16 : decode b_Mo_isHoliday 16 = .ok (.aload_n 0, 1) := by decide +kernel
theorem d_Mo_isHoliday_17 : decode b_Mo_isHoliday 17 = .ok (.getfield 36, 3) := by decide +kernel
theorem d_Mo_isHoliday_20 : decode b_Mo_isHoliday 20 = .ok (.iload_n 3, 1) := by decide +kernel
theorem d_Mo_isHoliday_21 : decode b_Mo_isHoliday 21 = .ok (.iaload, 1) := by decide +kernel
theorem d_Mo_isHoliday_22 : decode b_Mo_isHoliday 22 = .ok (.iload_n 1, 1) := by decide +kernel
theorem d_Mo_isHoliday_23 : decode b_Mo_isHoliday 23 = .ok (.if_icmp .ne 7, 3) := by decide +kernel
theorem d_Mo_isHoliday_26 : decode b_Mo_isHoliday 26 = .ok (.iconst 1, 1) := by decide +kernel
theorem d_Mo_isHoliday_27 : decode b_Mo_isHoliday 27 = .ok (.goto 4, 3) := by decide +kernel
theorem d_Mo_isHoliday_30 : decode b_Mo_isHoliday 30 = .ok (.iconst 0, 1) := by decide +kernel
theorem d_Mo_isHoliday_31 : decode b_Mo_isHoliday 31 = .ok (.istore_n 2, 1) := by decide +kernel
theorem d_Mo_isHoliday_32 : decode b_Mo_isHoliday 32 = .ok (.iinc 3 1, 3) := by decide +kernel
theorem d_Mo_isHoliday_35 : decode b_Mo_isHoliday 35 = .ok (.goto (-31), 3) := by decide +kernel
theorem d_Mo_isHoliday_38 : decode b_Mo_isHoliday 38 = .ok (.iload_n 2, 1) := by decide +kernel
theorem d_Mo_isHoliday_39 : decode b_Mo_isHoliday 39 = .ok (.ireturn, 1) := by decide +kernel
theorem d_Mo_holiday_0 : decode b_Mo_holiday 0 = .ok (.aload_n 0, 1) := by decide +kernel
theorem d_Mo_holiday_1 : decode b_Mo_holiday 1 = .ok (.iconst 0, 1) := by decide +kernel
theorem d_Mo_holiday_2 : decode b_Mo_holiday 2 = .ok (.putfield 60, 3) := by decide +kernel
theorem d_Mo_holiday_5 : decode b_Mo_holiday 5 = .ok (.iload_n 1, 1) := by decide +kernel
theorem d_Mo_holiday_6 : decode b_Mo_holiday 6 = .ok (.invokestatic 140, 3) := by decide +kernel
theorem d_Mo_holiday_9 : decode b_Mo_holiday 9 = .ok (.ifCond .eq 20, 3) := by decide +kernel
theorem d_Mo_holiday_12 : decode b_Mo_holiday 12 = .ok (.aload_n 0, 1) := by decide +kernel
theorem d_Mo_holiday_13 : decode b_Mo_holiday 13 = .ok (.iload_n 1, 1) := by decide +kernel
theorem d_Mo_holiday_14 : decode b_Mo_holiday 14 = .ok (.invokevirtual 143, 3) := by decide +kernel
theorem d_Mo_holiday_17 : decode b_Mo_holiday 17 = .ok (.ifCond .ne 12, 3) := by decide +kernel
theorem d_Mo_holiday_20 : decode b_Mo_holiday 20 = .ok (.aload_n 0, 1) := by decide +kernel
theorem d_Mo_holiday_21 : decode b_Mo_holiday 21 = .ok (.getfield 137, 3) := by decide +kernel
theorem d_Mo_holiday_24 : decode b_Mo_holiday 24 = .ok (.bipush 60, 2) := by decide +kernel
theorem d_Mo_holiday_26 : decode b_Mo_holiday 26 = .ok (.if_icmp .ne 5, 3) := by decide +kernel
theorem d_Mo_holiday_29 : decode b_Mo_holiday 29 = .ok (.iconst 0, 1) := by decide +kernel
theorem d_Mo_holiday_30 : decode b_Mo_holiday 30 = .ok (.ireturn, 1) := by decide +kernel
theorem d_Mo_holiday_31 : decode b_Mo_holiday 31 = .ok (.aload_n 0, 1) := by decide +kernel
theorem d_Mo_holiday_32 : decode b_Mo_holiday 32 = .ok (.getfield 36, 3) := by decide +kernel
theorem d_Mo_holiday_35 : decode b_Mo_holiday 35 = .ok (.aload_n 0, 1) := by decide +kernel
theorem d_Mo_holiday_36 : decode b_Mo_holiday 36 = .ok (.getfield 137, 3) := by decide +kernel
theorem d_Mo_holiday_39 : decode b_Mo_holiday 39 = .ok (.iload_n 1, 1) := by decide +kernel
theorem d_Mo_holiday_40 : decode b_Mo_holiday 40 = .ok (.iastore, 1) := by decide +kernel
theorem d_Mo_holiday_41 : decode b_Mo_holiday 41 = .ok (.aload_n 0, 1) := by decide +kernel
theorem d_Mo_holiday_42 : decode b_Mo_holiday 42 = .ok (.dup, 1) := by decide +kernel
theorem d_Mo_holiday_43 : decode b_Mo_holiday 43 = .ok (.getfield 137, 3) := by decide +kernel
theorem d_Mo_holiday_46 : decode b_Mo_holiday 46 = .ok (.iconst 1, 1) := by decide +kernel
theorem d_Mo_holiday_47 : decode b_Mo_holiday 47 = .ok (.iadd, 1) := by decide +kernel
theorem d_Mo_holiday_48 : decode b_Mo_holiday 48 = .ok (.putfield 137, 3) := by decide +kernel
theorem d_Mo_holiday_51 : decode b_Mo_holiday 51 = .ok (.aload_n 0, 1) := by decide +kernel
theorem d_Mo_holiday_52 : decode b_Mo_holiday 52 = .ok (.getfield 137, 3) := by decide +kernel
theorem d_Mo_holiday_55 : decode b_Mo_holiday 55 = .ok (.ireturn, 1) := by decide +kernel
theorem d_Mo_has_0 : decode b_Mo_has 0 = .ok (.aload_n 0, 1) := by decide +kernel
theorem d_Mo_has_1 : decode b_Mo_has 1 = .ok (.getfield 17, 3) := by decide +kernel
theorem d_Mo_has_4 : decode b_Mo_has 4 = .ok (.iload_n 1, 1) := by decide +kernel
theorem d_Mo_has_5 : decode b_Mo_has 5 = .ok (.iaload, 1) := by decide +kernel
theorem d_Mo_has_6 : decode b_Mo_has 6 = .ok (.iload_n 2, 1) := by decide +kernel
theorem d_Mo_has_7 : decode b_Mo_has 7 = .ok (.bipush 30, 2) := by decide +kernel
theorem d_Mo_has_9 : decode b_Mo_has 9 = .ok (.idiv, 1) := by decide +kernel
theorem d_Mo_has_10 : decode b_Mo_has 10 = .ok (.bipush 12, 2) := by decide +kernel
theorem d_Mo_has_12 : decode b_Mo_has 12 = .ok (.irem, 1) := by decide +kernel
theorem d_Mo_has_13 : decode b_Mo_has 13 = .ok (.ishr, 1) := by decide +kernel
theorem d_Mo_has_14 : decode b_Mo_has 14 = .ok (.iconst 1, 1) := by decide +kernel
theorem d_Mo_has_15 : decode b_Mo_has 15 = .ok (.iand, 1) := by decide +kernel
theorem d_Mo_has_16 : decode b_Mo_has 16 = .ok (.ifCond .ne 7, 3) := by decide +kernel
theorem d_Mo_has_19 : decode b_Mo_has 19 = .ok (.iconst 1, 1) := by decide +kernel
theorem d_Mo_has_20 : decode b_Mo_has 20 = .ok (.goto 4, 3) := by decide +kernel
theorem d_Mo_has_23 : decode b_Mo_has 23 = .ok (.iconst 0, 1) := by decide +kernel
theorem d_Mo_has_24 : decode b_Mo_has 24 = .ok (.ireturn, 1) := by decide +kernel
theorem d_Mo_go_0 : decode b_Mo_go 0 = .ok (.iload 4, 2) := by decide +kernel
theorem d_Mo_go_2 : decode b_Mo_go 2 = .ok (.istore 5, 2) := by decide +kernel
theorem d_Mo_go_4 : decode b_Mo_go 4 = .ok (.iload_n 2, 1) := by decide +kernel
theorem d_Mo_go_5 : decode b_Mo_go 5 = .ok (.istore 6, 2) := by decide +kernel
theorem d_Mo_go_7 : decode b_Mo_go 7 = .ok (.iconst 0, 1) := by decide +kernel
theorem d_Mo_go_8 : decode b_Mo_go 8 = .ok (.istore 7, 2) := by decide +kernel
theorem d_Mo_go_10 : decode b_Mo_go 10 = .ok (.iload 7, 2) := by decide +kernel
theorem d_Mo_go_12 : decode b_Mo_go 12 = .ok (.iload_n 3, 1) := by decide +kernel
theorem d_Mo_go_13 : decode b_Mo_go 13 = .ok (.if_icmp .ge 227, 3) := by decide +kernel
theorem d_Mo_go_16 : decode b_Mo_go 16 = .ok (.iload 6, 2) := by decide +kernel
theorem d_Mo_go_18 : decode b_Mo_go 18 = .ok (.ifCond .lt 222, 3) := by decide +kernel
theorem d_Mo_go_21 : decode b_Mo_go 21 = .ok (.iload 6, 2) := by decide +kernel
theorem d_Mo_go_23 : decode b_Mo_go 23 = .ok (.sipush 1800, 3) := by decide +kernel
theorem d_Mo_go_26 : decode b_Mo_go 26 = .ok (.iadd, 1) := by decide +kernel
theorem d_Mo_go_27 : decode b_Mo_go 27 = .ok (.istore 8, 2) := by decide +kernel
theorem d_Mo_go_29 : decode b_Mo_go 29 = .ok (.iload 6, 2) := by decide +kernel
theorem d_Mo_go_31 : decode b_Mo_go 31 = .ok (.iload 8, 2) := by decide +kernel
theorem d_Mo_go_33 : decode b_Mo_go 33 = .ok (.if_icmp .gt 34, 3) := by decide +kernel
theorem d_Mo_go_36 : decode b_Mo_go 36 = .ok (.iload 6, 2) := by decide +kernel
theorem d_Mo_go_38 : decode b_Mo_go 38 = .ok (.ldc 136, 2) := by decide +kernel
theorem d_Mo_go_40 : decode b_Mo_go 40 = .ok (.if_icmp .gt 27, 3) := by decide +kernel
theorem d_Mo_go_43 : decode b_Mo_go 43 = .ok (.aload_n 0, 1) := by decide +kernel
theorem d_Mo_go_44 : decode b_Mo_go 44 = .ok (.iload_n 1, 1) := by decide +kernel
theorem d_Mo_go_45 : decode b_Mo_go 45 = .ok (.iload 6, 2) := by decide +kernel
theorem d_Mo_go_47 : decode b_Mo_go 47 = .ok (.invokevirtual 146, 3) := by decide +kernel
theorem d_Mo_go_50 : decode b_Mo_go 50 = .ok (.ifCond .ne 17, 3) := by decide +kernel
theorem d_Mo_go_53 : decode b_Mo_go 53 = .ok (.iload 6, 2) := by decide +kernel
theorem d_Mo_go_55 : decode b_Mo_go 55 = .ok (.aload_n 0, 1) := by decide +kernel
theorem d_Mo_go_56 : decode b_Mo_go 56 = .ok (.getfield 13, 3) := by decide +kernel
theorem d_Mo_go_59 : decode b_Mo_go 59 = .ok (.iload_n 1, 1) := by decide +kernel
theorem d_Mo_go_60 : decode b_Mo_go 60 = .ok (.iaload, 1) := by decide +kernel
theorem d_Mo_go_61 : decode b_Mo_go 61 = .ok (.iadd, 1) := by decide +kernel
theorem d_Mo_go_62 : decode b_Mo_go 62 = .ok (.istore 6, 2) := by decide +kernel
theorem d_Mo_go_64 : decode b_Mo_go 64 = .ok (.goto (-35), 3) := by decide +kernel
theorem d_Mo_go_67 : decode b_Mo_go 67 = .ok (.iload 6, 2) := by decide +kernel
theorem d_Mo_go_69 : decode b_Mo_go 69 = .ok (.istore 9, 2) := by decide +kernel
theorem d_Mo_go_71 : decode b_Mo_go 71 = .ok (.aload_n 0, 1) := by decide +kernel
theorem d_Mo_go_72 : decode b_Mo_go 72 = .ok (.iload 9, 2) := by decide +kernel
theorem d_Mo_go_74 : decode b_Mo_go 74 = .ok (.invokevirtual 143, 3) := by decide +kernel
theorem d_Mo_go_77 : decode b_Mo_go 77 = .ok (.ifCond .eq 9, 3) := by decide +kernel
theorem d_Mo_go_80 : decode b_Mo_go 80 = .ok (.iinc 9 1, 3) := by decide +kernel
theorem d_Mo_go_83 : decode b_Mo_go 83 = .ok (.goto (-12), 3) := by decide +kernel
theorem d_Mo_go_86 : decode b_Mo_go 86 = .ok (.iload 6, 2) := by decide +kernel
theorem d_Mo_go_88 : decode b_Mo_go 88 = .ok (.iload 8, 2) := by decide +kernel
theorem d_Mo_go_90 : decode b_Mo_go 90 = .ok (.if_icmp .gt 10, 3) := by decide +kernel
theorem d_Mo_go_93 : decode b_Mo_go 93 = .ok (.iload 9, 2) := by decide +kernel
theorem d_Mo_go_95 : decode b_Mo_go 95 = .ok (.ldc 136, 2) := by decide +kernel
theorem d_Mo_go_97 : decode b_Mo_go 97 = .ok (.if_icmp .le 9, 3) := by decide +kernel
theorem d_Mo_go_100 : decode b_Mo_go 100 = .ok (.iconst (-1), 1) := by decide +kernel
theorem d_Mo_go_101 : decode b_Mo_go 101 = .ok (.istore 6, 2) := by decide +kernel
theorem d_Mo_go_103 : decode b_Mo_go 103 = .ok (.goto 134, 3) := by decide +kernel
theorem d_Mo_go_106 : decode b_Mo_go 106 = .ok (.iinc 7 1, 3) := by decide +kernel
theorem d_Mo_go_109 : decode b_Mo_go 109 = .ok (.aload_n 0, 1) := by decide +kernel
theorem d_Mo_go_110 : decode b_Mo_go 110 = .ok (.getfield 20, 3) := by decide +kernel
theorem d_Mo_go_113 : decode b_Mo_go 113 = .ok (.iload_n 1, 1) := by decide +kernel
theorem d_Mo_go_114 : decode b_Mo_go 114 = .ok (.iaload, 1) := by decide +kernel
theorem d_Mo_go_115 : decode b_Mo_go 115 = .ok (.ifCond .le 19, 3) := by decide +kernel
theorem d_Mo_go_118 : decode b_Mo_go 118 = .ok (.iload 7, 2) := by decide +kernel
theorem d_Mo_go_120 : decode b_Mo_go 120 = .ok (.aload_n 0, 1) := by decide +kernel
theorem d_Mo_go_121 : decode b_Mo_go 121 = .ok (.getfield 20, 3) := by decide +kernel
theorem d_Mo_go_124 : decode b_Mo_go 124 = .ok (.iload_n 1, 1) := by decide +kernel
theorem d_Mo_go_125 : decode b_Mo_go 125 = .ok (.iaload, 1) := by decide +kernel
theorem d_Mo_go_126 : decode b_Mo_go 126 = .ok (.irem, 1) := by decide +kernel
theorem d_Mo_go_127 : decode b_Mo_go 127 = .ok (.ifCond .ne 7, 3) := by decide +kernel
theorem d_Mo_go_130 : decode b_Mo_go 130 = .ok (.iconst 1, 1) := by decide +kernel
theorem d_Mo_go_131 : decode b_Mo_go 131 = .ok (.goto 4, 3) := by decide +kernel
theorem d_Mo_go_134 : decode b_Mo_go 134 = .ok (.iconst 0, 1) := by decide +kernel
theorem d_Mo_go_135 : decode b_Mo_go 135 = .ok (.istore 10, 2) := by decide +kernel
theorem d_Mo_go_137 : decode b_Mo_go 137 = .ok (.aload_n 0, 1) := by decide +kernel
theorem d_Mo_go_138 : decode b_Mo_go 138 = .ok (.getfield 39, 3) := by decide +kernel
theorem d_Mo_go_141 : decode b_Mo_go 141 = .ok (.aload_n 0, 1) := by decide +kernel
theorem d_Mo_go_142 : decode b_Mo_go 142 = .ok (.getfield 150, 3) := by decide +kernel
theorem d_Mo_go_145 : decode b_Mo_go 145 = .ok (.iload 6, 2) := by decide +kernel
theorem d_Mo_go_147 : decode b_Mo_go 147 = .ok (.iastore, 1) := by decide +kernel
theorem d_Mo_go_148 : decode b_Mo_go 148 = .ok (.aload_n 0, 1) := by decide +kernel
theorem d_Mo_go_149 : decode b_Mo_go 149 = .ok (.getfield 42, 3) := by decide +kernel
theorem d_Mo_go_152 : decode b_Mo_go 152 = .ok (.aload_n 0, 1) := by decide +kernel
theorem d_Mo_go_153 : decode b_Mo_go 153 = .ok (.getfield 150, 3) := by decide +kernel
theorem d_Mo_go_156 : decode b_Mo_go 156 = .ok (.iload 9, 2) := by decide +kernel
theorem d_Mo_go_158 : decode b_Mo_go 158 = .ok (.iastore, 1) := by decide +kernel
theorem d_Mo_go_159 : decode b_Mo_go 159 = .ok (.aload_n 0, 1) := by decide +kernel
theorem d_Mo_go_160 : decode b_Mo_go 160 = .ok (.getfield 45, 3) := by decide +kernel
theorem d_Mo_go_163 : decode b_Mo_go 163 = .ok (.aload_n 0, 1) := by decide +kernel
theorem d_Mo_go_164 : decode b_Mo_go 164 = .ok (.getfield 150, 3) := by decide +kernel
theorem d_Mo_go_167 : decode b_Mo_go 167 = .ok (.iload 5, 2) := by decide +kernel
theorem d_Mo_go_169 : decode b_Mo_go 169 = .ok (.iastore, 1) := by decide +kernel
theorem d_Mo_go_170 : decode b_Mo_go 170 = .ok (.aload_n 0, 1) := by decide +kernel
theorem d_Mo_go_171 : decode b_Mo_go 171 = .ok (.getfield 48, 3) := by decide +kernel
theorem d_Mo_go_174 : decode b_Mo_go 174 = .ok (.aload_n 0, 1) := by decide +kernel
theorem d_Mo_go_175 : decode b_Mo_go 175 = .ok (.getfield 150, 3) := by decide +kernel
theorem d_Mo_go_178 : decode b_Mo_go 178 = .ok (.iload 10, 2) := by decide +kernel
theorem d_Mo_go_180 : decode b_Mo_go 180 = .ok (.bastore, 1) := by decide +kernel
theorem d_Mo_go_181 : decode b_Mo_go 181 = .ok (.aload_n 0, 1) := by decide +kernel
theorem d_Mo_go_182 : decode b_Mo_go 182 = .ok (.getfield 51, 3) := by decide +kernel
theorem d_Mo_go_185 : decode b_Mo_go 185 = .ok (.aload_n 0, 1) := by decide +kernel
theorem d_Mo_go_186 : decode b_Mo_go 186 = .ok (.getfield 150, 3) := by decide +kernel
theorem d_Mo_go_189 : decode b_Mo_go 189 = .ok (.iload_n 1, 1) := by decide +kernel
theorem d_Mo_go_190 : decode b_Mo_go 190 = .ok (.iastore, 1) := by decide +kernel
theorem d_Mo_go_191 : decode b_Mo_go 191 = .ok (.aload_n 0, 1) := by decide +kernel
theorem d_Mo_go_192 : decode b_Mo_go 192 = .ok (.getfield 54, 3) := by decide +kernel
theorem d_Mo_go_195 : decode b_Mo_go 195 = .ok (.aload_n 0, 1) := by decide +kernel
theorem d_Mo_go_196 : decode b_Mo_go 196 = .ok (.getfield 150, 3) := by decide +kernel
theorem d_Mo_go_199 : decode b_Mo_go 199 = .ok (.iconst (-1), 1) := by decide +kernel
theorem d_Mo_go_200 : decode b_Mo_go 200 = .ok (.iastore, 1) := by decide +kernel
theorem d_Mo_go_201 : decode b_Mo_go 201 = .ok (.aload_n 0, 1) := by decide +kernel
theorem d_Mo_go_202 : decode b_Mo_go 202 = .ok (.dup, 1) := by decide +kernel
theorem d_Mo_go_203 : decode b_Mo_go 203 = .ok (.getfield 150, 3) := by decide +kernel
theorem d_Mo_go_206 : decode b_Mo_go 206 = .ok (.iconst 1, 1) := by decide +kernel
theorem d_Mo_go_207 : decode b_Mo_go 207 = .ok (.iadd, 1) := by decide +kernel
theorem d_Mo_go_208 : decode b_Mo_go 208 = .ok (.putfield 150, 3) := by decide +kernel
theorem d_Mo_go_211 : decode b_Mo_go 211 = .ok (.iload 5, 2) := by decide +kernel
theorem d_Mo_go_213 : decode b_Mo_go 213 = .ok (.iload 10, 2) := by decide +kernel
theorem d_Mo_go_215 : decode b_Mo_go 215 = .ok (.ifCond .eq 7, 3) := by decide +kernel
theorem d_Mo_go_218 : decode b_Mo_go 218 = .ok (.iconst 2, 1) := by decide +kernel
theorem d_Mo_go_219 : decode b_Mo_go 219 = .ok (.goto 4, 3) := by decide +kernel
theorem d_Mo_go_222 : decode b_Mo_go 222 = .ok (.iconst 1, 1) := by decide +kernel
theorem d_Mo_go_223 : decode b_Mo_go 223 = .ok (.iadd, 1) := by decide +kernel
theorem d_Mo_go_224 : decode b_Mo_go 224 = .ok (.istore 5, 2) := by decide +kernel
theorem d_Mo_go_226 : decode b_Mo_go 226 = .ok (.iload 6, 2) := by decide +kernel
theorem d_Mo_go_228 : decode b_Mo_go 228 = .ok (.aload_n 0, 1) := by decide +kernel
theorem d_Mo_go_229 : decode b_Mo_go 229 = .ok (.getfield 13, 3) := by decide +kernel
theorem d_Mo_go_232 : decode b_Mo_go 232 = .ok (.iload_n 1, 1) := by decide +kernel
theorem d_Mo_go_233 : decode b_Mo_go 233 = .ok (.iaload, 1) := by decide +kernel
theorem d_Mo_go_234 : decode b_Mo_go 234 = .ok (.iadd, 1) := by decide +kernel
theorem d_Mo_go_235 : decode b_Mo_go 235 = .ok (.istore 6, 2) := by decide +kernel
theorem d_Mo_go_237 : decode b_Mo_go 237 = .ok (.goto (-227), 3) := by decide +kernel
theorem d_Mo_go_240 : decode b_Mo_go 240 = .ok (.return_, 1) := by decide +kernel
theorem d_Mo_foretell_0 : decode b_Mo_foretell 0 = .ok (.aload_n 0, 1) := by decide +kernel
theorem d_Mo_foretell_1 : decode b_Mo_foretell 1 = .ok (.iconst 0, 1) := by decide +kernel
theorem d_Mo_foretell_2 : decode b_Mo_foretell 2 = .ok (.putfield 60, 3) := by decide +kernel
theorem d_Mo_foretell_5 : decode b_Mo_foretell 5 = .ok (.aload_n 0, 1) := by decide +kernel
theorem d_Mo_foretell_6 : decode b_Mo_foretell 6 = .ok (.iload_n 1, 1) := by decide +kernel
theorem d_Mo_foretell_7 : decode b_Mo_foretell 7 = .ok (.invokevirtual 153, 3) := by decide +kernel
theorem d_Mo_foretell_10 : decode b_Mo_foretell 10 = .ok (.ifCond .eq 21, 3) := by decide +kernel
theorem d_Mo_foretell_13 : decode b_Mo_foretell 13 = .ok (.iload_n 3, 1) := by decide +kernel
theorem d_Mo_foretell_14 : decode b_Mo_foretell 14 = .ok (.iconst 1, 1) := by decide +kernel
theorem d_Mo_foretell_15 : decode b_Mo_foretell 15 = .ok (.if_icmp .lt 16, 3) := by decide +kernel
theorem d_Mo_foretell_18 : decode b_Mo_foretell 18 = .ok (.iload_n 3, 1) := by decide +kernel
theorem d_Mo_foretell_19 : decode b_Mo_foretell 19 = .ok (.bipush 100, 2) := by decide +kernel
theorem d_Mo_foretell_21 : decode b_Mo_foretell 21 = .ok (.if_icmp .gt 10, 3) := by decide +kernel
theorem d_Mo_foretell_24 : decode b_Mo_foretell 24 = .ok (.iload_n 2, 1) := by decide +kernel
theorem d_Mo_foretell_25 : decode b_Mo_foretell 25 = .ok (.invokestatic 140, 3) := by decide +kernel
theorem d_Mo_foretell_28 : decode b_Mo_foretell 28 = .ok (.ifCond .ne 5, 3) := by decide +kernel
theorem d_Mo_foretell_31 : decode b_Mo_foretell 31 = .ok (.iconst (-1), 1) := by decide +kernel
theorem d_Mo_foretell_32 : decode b_Mo_foretell 32 = .ok (.ireturn, 1) := by decide +kernel
theorem d_Mo_foretell_33 : decode b_Mo_foretell 33 = .ok (.aload_n 0, 1) := by decide +kernel
theorem d_Mo_foretell_34 : decode b_Mo_foretell 34 = .ok (.iconst 0, 1) := by decide +kernel
theorem d_Mo_foretell_35 : decode b_Mo_foretell 35 = .ok (.putfield 150, 3) := by decide +kernel
theorem d_Mo_foretell_38 : decode b_Mo_foretell 38 = .ok (.aload_n 0, 1) := by decide +kernel
theorem d_Mo_foretell_39 : decode b_Mo_foretell 39 = .ok (.iload_n 1, 1) := by decide +kernel
theorem d_Mo_foretell_40 : decode b_Mo_foretell 40 = .ok (.iload_n 2, 1) := by decide +kernel
theorem d_Mo_foretell_41 : decode b_Mo_foretell 41 = .ok (.iload_n 3, 1) := by decide +kernel
theorem d_Mo_foretell_42 : decode b_Mo_foretell 42 = .ok (.iconst 1, 1) := by decide +kernel
theorem d_Mo_foretell_43 : decode b_Mo_foretell 43 = .ok (.invokevirtual 156, 3) := by decide +kernel
theorem d_Mo_foretell_46 : decode b_Mo_foretell 46 = .ok (.aload_n 0, 1) := by decide +kernel
theorem d_Mo_foretell_47 : decode b_Mo_foretell 47 = .ok (.getfield 150, 3) := by decide +kernel
theorem d_Mo_foretell_50 : decode b_Mo_foretell 50 = .ok (.ireturn, 1) := by decide +kernel
theorem d_Mo_changed_0 : decode b_Mo_changed 0 = .ok (.aload_n 0, 1) := by decide +kernel
theorem d_Mo_changed_1 : decode b_Mo_changed 1 = .ok (.iconst 0, 1) := by decide +kernel
theorem d_Mo_changed_2 : decode b_Mo_changed 2 = .ok (.putfield 60, 3) := by decide +kernel
theorem d_Mo_changed_5 : decode b_Mo_changed 5 = .ok (.aload_n 0, 1) := by decide +kernel
theorem d_Mo_changed_6 : decode b_Mo_changed 6 = .ok (.iload_n 1, 1) := by decide +kernel
theorem d_Mo_changed_7 : decode b_Mo_changed 7 = .ok (.invokevirtual 153, 3) := by decide +kernel
theorem d_Mo_changed_10 : decode b_Mo_changed 10 = .ok (.ifCond .eq 10, 3) := by decide +kernel
theorem d_Mo_changed_13 : decode b_Mo_changed 13 = .ok (.iload_n 2, 1) := by decide +kernel
theorem d_Mo_changed_14 : decode b_Mo_changed 14 = .ok (.invokestatic 140, 3) := by decide +kernel
theorem d_Mo_changed_17 : decode b_Mo_changed 17 = .ok (.ifCond .ne 5, 3) := by decide +kernel
theorem d_Mo_changed_20 : decode b_Mo_changed 20 = .ok (.iconst (-1), 1) := by decide +kernel
theorem d_Mo_changed_21 : decode b_Mo_changed 21 = .ok (.ireturn, 1) := by decide +kernel
theorem d_Mo_changed_22 : decode b_Mo_changed 22 = .ok (.iconst 0, 1) := by decide +kernel
theorem d_Mo_changed_23 : decode b_Mo_changed 23 = .ok (.istore_n 3, 1) := by decide +kernel
theorem d_Mo_changed_24 : decode b_Mo_changed 24 = .ok (.iload_n 3, 1) := by decide +kernel
theorem d_Mo_changed_25 : decode b_Mo_changed 25 = .ok (.aload_n 0, 1) := by decide +kernel
theorem d_Mo_changed_26 : decode b_Mo_changed 26 = .ok (.getfield 150, 3) := by decide +kernel
theorem d_Mo_changed_29 : decode b_Mo_changed 29 = .ok (.if_icmp .ge 19, 3) := by decide +kernel
theorem d_Mo_changed_32 : decode b_Mo_changed 32 = .ok (.aload_n 0, 1) := by decide +kernel
theorem d_Mo_changed_33 : decode b_Mo_changed 33 = .ok (.getfield 39, 3) := by decide +kernel
theorem d_Mo_changed_36 : decode b_Mo_changed 36 = .ok (.iload_n 3, 1) := by decide +kernel
theorem d_Mo_changed_37 : decode b_Mo_changed 37 = .ok (.iaload, 1) := by decide +kernel
theorem d_Mo_changed_38 : decode b_Mo_changed 38 = .ok (.iload_n 2, 1) := by decide +kernel
theorem d_Mo_changed_39 : decode b_Mo_changed 39 = .ok (.if_icmp .ge 9, 3) := by decide +kernel
theorem d_Mo_changed_42 : decode b_Mo_changed 42 = .ok (.iinc 3 1, 3) := by decide +kernel
theorem d_Mo_changed_45 : decode b_Mo_changed 45 = .ok (.goto (-21), 3) := by decide +kernel
theorem d_Mo_changed_48 : decode b_Mo_changed 48 = .ok (.iload_n 3, 1) := by decide +kernel
theorem d_Mo_changed_49 : decode b_Mo_changed 49 = .ok (.istore 4, 2) := by decide +kernel
theorem d_Mo_changed_51 : decode b_Mo_changed 51 = .ok (.iload 4, 2) := by decide +kernel
theorem d_Mo_changed_53 : decode b_Mo_changed 53 = .ok (.aload_n 0, 1) := by decide +kernel
theorem d_Mo_changed_54 : decode b_Mo_changed 54 = .ok (.getfield 150, 3) := by decide +kernel
theorem d_Mo_changed_57 : decode b_Mo_changed 57 = .ok (.if_icmp .ge 22, 3) := by decide +kernel
theorem d_Mo_changed_60 : decode b_Mo_changed 60 = .ok (.aload_n 0, 1) := by decide +kernel
theorem d_Mo_changed_61 : decode b_Mo_changed 61 = .ok (.getfield 54, 3) := by decide +kernel
theorem d_Mo_changed_64 : decode b_Mo_changed 64 = .ok (.iload 4, 2) := by decide +kernel
theorem d_Mo_changed_66 : decode b_Mo_changed 66 = .ok (.iaload, 1) := by decide +kernel
theorem d_Mo_changed_67 : decode b_Mo_changed 67 = .ok (.iconst (-1), 1) := by decide +kernel
theorem d_Mo_changed_68 : decode b_Mo_changed 68 = .ok (.if_icmp .eq 5, 3) := by decide +kernel
theorem d_Mo_changed_71 : decode b_Mo_changed 71 = .ok (.iconst (-1), 1) := by decide +kernel
theorem d_Mo_changed_72 : decode b_Mo_changed 72 = .ok (.ireturn, 1) := by decide +kernel
theorem d_Mo_changed_73 : decode b_Mo_changed 73 = .ok (.iinc 4 1, 3) := by decide +kernel
theorem d_Mo_changed_76 : decode b_Mo_changed 76 = .ok (.goto (-25), 3) := by decide +kernel
theorem d_Mo_changed_79 : decode b_Mo_changed 79 = .ok (.aload_n 0, 1) := by decide +kernel
theorem d_Mo_changed_80 : decode b_Mo_changed 80 = .ok (.getfield 150, 3) := by decide +kernel
theorem d_Mo_changed_83 : decode b_Mo_changed 83 = .ok (.iload_n 3, 1) := by decide +kernel
theorem d_Mo_changed_84 : decode b_Mo_changed 84 = .ok (.isub, 1) := by decide +kernel
theorem d_Mo_changed_85 : decode b_Mo_changed 85 = .ok (.istore 4, 2) := by decide +kernel
theorem d_Mo_changed_87 : decode b_Mo_changed 87 = .ok (.aload_n 0, 1) := by decide +kernel
theorem d_Mo_changed_88 : decode b_Mo_changed 88 = .ok (.iload_n 3, 1) := by decide +kernel
theorem d_Mo_changed_89 : decode b_Mo_changed 89 = .ok (.putfield 150, 3) := by decide +kernel
theorem d_Mo_changed_92 : decode b_Mo_changed 92 = .ok (.aload_n 0, 1) := by decide +kernel
theorem d_Mo_changed_93 : decode b_Mo_changed 93 = .ok (.iload_n 1, 1) := by decide +kernel
theorem d_Mo_changed_94 : decode b_Mo_changed 94 = .ok (.iload_n 2, 1) := by decide +kernel
theorem d_Mo_changed_95 : decode b_Mo_changed 95 = .ok (.iload 4, 2) := by decide +kernel
theorem d_Mo_changed_97 : decode b_Mo_changed 97 = .ok (.iload_n 3, 1) := by decide +kernel
theorem d_Mo_changed_98 : decode b_Mo_changed 98 = .ok (.ifCond .ne 7, 3) := by decide +kernel
theorem d_Mo_changed_101 : decode b_Mo_changed 101 = .ok (.iconst 1, 1) := by decide +kernel
theorem d_Mo_changed_102 : decode b_Mo_changed 102 = .ok (.goto 28, 3) := by decide +kernel
theorem d_Mo_changed_105 : decode b_Mo_changed 105 = .ok (.aload_n 0, 1) := by decide +kernel
theorem d_Mo_changed_106 : decode b_Mo_changed 106 = .ok (.getfield 45, 3) := by decide +kernel
theorem d_Mo_changed_109 : decode b_Mo_changed 109 = .ok (.iload_n 3, 1) := by decide +kernel
theorem d_Mo_changed_110 : decode b_Mo_changed 110 = .ok (.iconst 1, 1) := by decide +kernel
theorem d_Mo_changed_111 : decode b_Mo_changed 111 = .ok (.isub, 1) := by decide +kernel
theorem d_Mo_changed_112 : decode b_Mo_changed 112 = .ok (.iaload, 1) := by decide +kernel
theorem d_Mo_changed_113 : decode b_Mo_changed 113 = .ok (.aload_n 0, 1) := by decide +kernel
theorem d_Mo_changed_114 : decode b_Mo_changed 114 = .ok (.getfield 48, 3) := by decide +kernel
theorem d_Mo_changed_117 : decode b_Mo_changed 117 = .ok (.iload_n 3, 1) := by decide +kernel
theorem d_Mo_changed_118 : decode b_Mo_changed 118 = .ok (.iconst 1, 1) := by decide +kernel
theorem d_Mo_changed_119 : decode b_Mo_changed 119 = .ok (.isub, 1) := by decide +kernel
theorem d_Mo_changed_120 : decode b_Mo_changed 120 = .ok (.baload, 1) := by decide +kernel
theorem d_Mo_changed_121 : decode b_Mo_changed 121 = .ok (.ifCond .eq 7, 3) := by decide +kernel
theorem d_Mo_changed_124 : decode b_Mo_changed 124 = .ok (.iconst 2, 1) := by decide +kernel
theorem d_Mo_changed_125 : decode b_Mo_changed 125 = .ok (.goto 4, 3) := by decide +kernel
theorem d_Mo_changed_128 : decode b_Mo_changed 128 = .ok (.iconst 1, 1) := by decide +kernel
theorem d_Mo_changed_129 : decode b_Mo_changed 129 = .ok (.iadd, 1) := by decide +kernel
theorem d_Mo_changed_130 : decode b_Mo_changed 130 = .ok (.invokevirtual 156, 3) := by decide +kernel
theorem d_Mo_changed_133 : decode b_Mo_changed 133 = .ok (.iload 4, 2) := by decide +kernel
theorem d_Mo_changed_135 : decode b_Mo_changed 135 = .ok (.ireturn, 1) := by decide +kernel
theorem d_Mo_isIssue_0 : decode b_Mo_isIssue 0 = .ok (.iload_n 1, 1) := by decide +kernel
theorem d_Mo_isIssue_1 : decode b_Mo_isIssue 1 = .ok (.ifCond .lt 15, 3) := by decide +kernel
theorem d_Mo_isIssue_4 : decode b_Mo_isIssue 4 = .ok (.iload_n 1, 1) := by decide +kernel
theorem d_Mo_isIssue_5 : decode b_Mo_isIssue 5 = .ok (.aload_n 0, 1) := by decide +kernel
theorem d_Mo_isIssue_6 : decode b_Mo_isIssue 6 = .ok (.getfield 150, 3) := by decide +kernel
theorem d_Mo_isIssue_9 : decode b_Mo_isIssue 9 = .ok (.if_icmp .ge 7, 3) := by decide +kernel
theorem d_Mo_isIssue_12 : decode b_Mo_isIssue 12 = .ok (.iconst 1, 1) := by decide +kernel
theorem d_Mo_isIssue_13 : decode b_Mo_isIssue 13 = .ok (.goto 4, 3) := by decide +kernel
theorem d_Mo_isIssue_16 : decode b_Mo_isIssue 16 = .ok (.iconst 0, 1) := by decide +kernel
theorem d_Mo_isIssue_17 : decode b_Mo_isIssue 17 = .ok (.ireturn, 1) := by decide +kernel
theorem d_Mo_told_0 : decode b_Mo_told 0 = .ok (.aload_n 0, 1) := by decide +kernel
theorem d_Mo_told_1 : decode b_Mo_told 1 = .ok (.getfield 26, 3) := by decide +kernel
theorem d_Mo_told_4 : decode b_Mo_told 4 = .ok (.iload_n 1, 1) := by decide +kernel
theorem d_Mo_told_5 : decode b_Mo_told 5 = .ok (.baload, 1) := by decide +kernel
theorem d_Mo_told_6 : decode b_Mo_told 6 = .ok (.ifCond .eq 18, 3) := by decide +kernel
theorem d_Mo_told_9 : decode b_Mo_told 9 = .ok (.iload_n 2, 1) := by decide +kernel
theorem d_Mo_told_10 : decode b_Mo_told 10 = .ok (.iconst 1, 1) := by decide +kernel
theorem d_Mo_told_11 : decode b_Mo_told 11 = .ok (.isub, 1) := by decide +kernel
theorem d_Mo_told_12 : decode b_Mo_told 12 = .ok (.aload_n 0, 1) := by decide +kernel
theorem d_Mo_told_13 : decode b_Mo_told 13 = .ok (.getfield 23, 3) := by decide +kernel
theorem d_Mo_told_16 : decode b_Mo_told 16 = .ok (.iload_n 1, 1) := by decide +kernel
theorem d_Mo_told_17 : decode b_Mo_told 17 = .ok (.iaload, 1) := by decide +kernel
theorem d_Mo_told_18 : decode b_Mo_told 18 = .ok (.irem, 1) := by decide +kernel
theorem d_Mo_told_19 : decode b_Mo_told 19 = .ok (.iconst 1, 1) := by decide +kernel
theorem d_Mo_told_20 : decode b_Mo_told 20 = .ok (.iadd, 1) := by decide +kernel
theorem d_Mo_told_21 : decode b_Mo_told 21 = .ok (.goto 4, 3) := by decide +kernel
theorem d_Mo_told_24 : decode b_Mo_told 24 = .ok (.iload_n 2, 1) := by decide +kernel
theorem d_Mo_told_25 : decode b_Mo_told 25 = .ok (.ireturn, 1) := by decide +kernel
theorem d_Mo_issue_0 : decode b_Mo_issue 0 = .ok (.aload_n 0, 1) := by decide +kernel
theorem d_Mo_issue_1 : decode b_Mo_issue 1 = .ok (.iconst 0, 1) := by decide +kernel
theorem d_Mo_issue_2 : decode b_Mo_issue 2 = .ok (.putfield 60, 3) := by decide +kernel
theorem d_Mo_issue_5 : decode b_Mo_issue 5 = .ok (.aload_n 0, 1) := by decide +kernel
theorem d_Mo_issue_6 : decode b_Mo_issue 6 = .ok (.iload_n 1, 1) := by decide +kernel
theorem d_Mo_issue_7 : decode b_Mo_issue 7 = .ok (.invokevirtual 160, 3) := by decide +kernel
theorem d_Mo_issue_10 : decode b_Mo_issue 10 = .ok (.ifCond .ne 5, 3) := by decide +kernel
theorem d_Mo_issue_13 : decode b_Mo_issue 13 = .ok (.iconst (-1), 1) := by decide +kernel
theorem d_Mo_issue_14 : decode b_Mo_issue 14 = .ok (.ireturn, 1) := by decide +kernel
theorem d_Mo_issue_15 : decode b_Mo_issue 15 = .ok (.aload_n 0, 1) := by decide +kernel
theorem d_Mo_issue_16 : decode b_Mo_issue 16 = .ok (.getfield 51, 3) := by decide +kernel
theorem d_Mo_issue_19 : decode b_Mo_issue 19 = .ok (.iload_n 1, 1) := by decide +kernel
theorem d_Mo_issue_20 : decode b_Mo_issue 20 = .ok (.iaload, 1) := by decide +kernel
theorem d_Mo_issue_21 : decode b_Mo_issue 21 = .ok (.istore_n 3, 1) := by decide +kernel
theorem d_Mo_issue_22 : decode b_Mo_issue 22 = .ok (.iload_n 2, 1) := by decide +kernel
theorem d_Mo_issue_23 : decode b_Mo_issue 23 = .ok (.tableswitch 140 0 5 #[37, 49, 64, 95, 122, 124], 37) := by decide +kernel
theorem d_Mo_issue_60 : decode b_Mo_issue 60 = .ok (.aload_n 0, 1) := by decide +kernel
theorem d_Mo_issue_61 : decode b_Mo_issue 61 = .ok (.iload_n 3, 1) := by decide +kernel
theorem d_Mo_issue_62 : decode b_Mo_issue 62 = .ok (.aload_n 0, 1) := by decide +kernel
theorem d_Mo_issue_63 : decode b_Mo_issue 63 = .ok (.getfield 45, 3) := by decide +kernel
theorem d_Mo_issue_66 : decode b_Mo_issue 66 = .ok (.iload_n 1, 1) := by decide +kernel
theorem d_Mo_issue_67 : decode b_Mo_issue 67 = .ok (.iaload, 1) := by decide +kernel
theorem d_Mo_issue_68 : decode b_Mo_issue 68 = .ok (.invokevirtual 163, 3) := by decide +kernel
theorem d_Mo_issue_71 : decode b_Mo_issue 71 = .ok (.ireturn, 1) := by decide +kernel
theorem d_Mo_issue_72 : decode b_Mo_issue 72 = .ok (.aload_n 0, 1) := by decide +kernel
theorem d_Mo_issue_73 : decode b_Mo_issue 73 = .ok (.getfield 48, 3) := by decide +kernel
theorem d_Mo_issue_76 : decode b_Mo_issue 76 = .ok (.iload_n 1, 1) := by decide +kernel
theorem d_Mo_issue_77 : decode b_Mo_issue 77 = .ok (.baload, 1) := by decide +kernel
theorem d_Mo_issue_78 : decode b_Mo_issue 78 = .ok (.ifCond .eq 7, 3) := by decide +kernel
theorem d_Mo_issue_81 : decode b_Mo_issue 81 = .ok (.iconst 2, 1) := by decide +kernel
theorem d_Mo_issue_82 : decode b_Mo_issue 82 = .ok (.goto 4, 3) := by decide +kernel
theorem d_Mo_issue_85 : decode b_Mo_issue 85 = .ok (.iconst 1, 1) := by decide +kernel
theorem d_Mo_issue_86 : decode b_Mo_issue 86 = .ok (.ireturn, 1) := by decide +kernel
theorem d_Mo_issue_87 : decode b_Mo_issue 87 = .ok (.aload_n 0, 1) := by decide +kernel
theorem d_Mo_issue_88 : decode b_Mo_issue 88 = .ok (.getfield 23, 3) := by decide +kernel
theorem d_Mo_issue_91 : decode b_Mo_issue 91 = .ok (.iload_n 3, 1) := by decide +kernel
theorem d_Mo_issue_92 : decode b_Mo_issue 92 = .ok (.iaload, 1) := by decide +kernel
theorem d_Mo_issue_93 : decode b_Mo_issue 93 = .ok (.ifCond .ne 7, 3) := by decide +kernel
theorem d_Mo_issue_96 : decode b_Mo_issue 96 = .ok (.iconst 0, 1) := by decide +kernel
theorem d_Mo_issue_97 : decode b_Mo_issue 97 = .ok (.goto 20, 3) := by decide +kernel
theorem d_Mo_issue_100 : decode b_Mo_issue 100 = .ok (.aload_n 0, 1) := by decide +kernel
theorem d_Mo_issue_101 : decode b_Mo_issue 101 = .ok (.getfield 45, 3) := by decide +kernel
theorem d_Mo_issue_104 : decode b_Mo_issue 104 = .ok (.iload_n 1, 1) := by decide +kernel
theorem d_Mo_issue_105 : decode b_Mo_issue 105 = .ok (.iaload, 1) := by decide +kernel
theorem d_Mo_issue_106 : decode b_Mo_issue 106 = .ok (.iconst 1, 1) := by decide +kernel
theorem d_Mo_issue_107 : decode b_Mo_issue 107 = .ok (.isub, 1) := by decide +kernel
theorem d_Mo_issue_108 : decode b_Mo_issue 108 = .ok (.aload_n 0, 1) := by decide +kernel
theorem d_Mo_issue_109 : decode b_Mo_issue 109 = .ok (.getfield 23, 3) := by decide +kernel
theorem d_Mo_issue_112 : decode b_Mo_issue 112 = .ok (.iload_n 3, 1) := by decide +kernel
theorem d_Mo_issue_113 : decode b_Mo_issue 113 = .ok (.iaload, 1) := by decide +kernel
theorem d_Mo_issue_114 : decode b_Mo_issue 114 = .ok (.idiv, 1) := by decide +kernel
theorem d_Mo_issue_115 : decode b_Mo_issue 115 = .ok (.iconst 1, 1) := by decide +kernel
theorem d_Mo_issue_116 : decode b_Mo_issue 116 = .ok (.iadd, 1) := by decide +kernel
theorem d_Mo_issue_117 : decode b_Mo_issue 117 = .ok (.ireturn, 1) := by decide +kernel
theorem d_Mo_issue_118 : decode b_Mo_issue 118 = .ok (.aload_n 0, 1) := by decide +kernel
theorem d_Mo_issue_119 : decode b_Mo_issue 119 = .ok (.getfield 48, 3) := by decide +kernel
theorem d_Mo_issue_122 : decode b_Mo_issue 122 = .ok (.iload_n 1, 1) := by decide +kernel
theorem d_Mo_issue_123 : decode b_Mo_issue 123 = .ok (.baload, 1) := by decide +kernel
theorem d_Mo_issue_124 : decode b_Mo_issue 124 = .ok (.ifCond .eq 19, 3) := by decide +kernel
theorem d_Mo_issue_127 : decode b_Mo_issue 127 = .ok (.aload_n 0, 1) := by decide +kernel
theorem d_Mo_issue_128 : decode b_Mo_issue 128 = .ok (.iload_n 3, 1) := by decide +kernel
theorem d_Mo_issue_129 : decode b_Mo_issue 129 = .ok (.aload_n 0, 1) := by decide +kernel
theorem d_Mo_issue_130 : decode b_Mo_issue 130 = .ok (.getfield 45, 3) := by decide +kernel
theorem d_Mo_issue_133 : decode b_Mo_issue 133 = .ok (.iload_n 1, 1) := by decide +kernel
theorem d_Mo_issue_134 : decode b_Mo_issue 134 = .ok (.iaload, 1) := by decide +kernel
theorem d_Mo_issue_135 : decode b_Mo_issue 135 = .ok (.iconst 1, 1) := by decide +kernel
theorem d_Mo_issue_136 : decode b_Mo_issue 136 = .ok (.iadd, 1) := by decide +kernel
theorem d_Mo_issue_137 : decode b_Mo_issue 137 = .ok (.invokevirtual 163, 3) := by decide +kernel
theorem d_Mo_issue_140 : decode b_Mo_issue 140 = .ok (.goto 4, 3) := by decide +kernel
theorem d_Mo_issue_143 : decode b_Mo_issue 143 = .ok (.iconst 0, 1) := by decide +kernel
theorem d_Mo_issue_144 : decode b_Mo_issue 144 = .ok (.ireturn, 1) := by decide +kernel
theorem d_Mo_issue_145 : decode b_Mo_issue 145 = .ok (.iload_n 3, 1) := by decide +kernel
theorem d_Mo_issue_146 : decode b_Mo_issue 146 = .ok (.ireturn, 1) := by decide +kernel
theorem d_Mo_issue_147 : decode b_Mo_issue 147 = .ok (.aload_n 0, 1) := by decide +kernel
theorem d_Mo_issue_148 : decode b_Mo_issue 148 = .ok (.getfield 54, 3) := by decide +kernel
theorem d_Mo_issue_151 : decode b_Mo_issue 151 = .ok (.iload_n 1, 1) := by decide +kernel
theorem d_Mo_issue_152 : decode b_Mo_issue 152 = .ok (.iaload, 1) := by decide +kernel
theorem d_Mo_issue_153 : decode b_Mo_issue 153 = .ok (.iconst (-1), 1) := by decide +kernel
theorem d_Mo_issue_154 : decode b_Mo_issue 154 = .ok (.if_icmp .ne 7, 3) := by decide +kernel
theorem d_Mo_issue_157 : decode b_Mo_issue 157 = .ok (.iconst 0, 1) := by decide +kernel
theorem d_Mo_issue_158 : decode b_Mo_issue 158 = .ok (.goto 4, 3) := by decide +kernel
theorem d_Mo_issue_161 : decode b_Mo_issue 161 = .ok (.iconst 1, 1) := by decide +kernel
theorem d_Mo_issue_162 : decode b_Mo_issue 162 = .ok (.ireturn, 1) := by decide +kernel
theorem d_Mo_issue_163 : decode b_Mo_issue 163 = .ok (.iconst (-1), 1) := by decide +kernel
theorem d_Mo_issue_164 : decode b_Mo_issue 164 = .ok (.ireturn, 1) := by decide +kernel
theorem d_Mo_date_0 : decode b_Mo_date 0 = .ok (.aload_n 0, 1) := by decide +kernel
theorem d_Mo_date_1 : decode b_Mo_date 1 = .ok (.iconst 0, 1) := by decide +kernel
theorem d_Mo_date_2 : decode b_Mo_date 2 = .ok (.putfield 60, 3) := by decide +kernel
theorem d_Mo_date_5 : decode b_Mo_date 5 = .ok (.aload_n 0, 1) := by decide +kernel
theorem d_Mo_date_6 : decode b_Mo_date 6 = .ok (.iload_n 1, 1) := by decide +kernel
theorem d_Mo_date_7 : decode b_Mo_date 7 = .ok (.invokevirtual 160, 3) := by decide +kernel
theorem d_Mo_date_10 : decode b_Mo_date 10 = .ok (.ifCond .eq 13, 3) := by decide +kernel
theorem d_Mo_date_13 : decode b_Mo_date 13 = .ok (.aload_n 0, 1) := by decide +kernel
theorem d_Mo_date_14 : decode b_Mo_date 14 = .ok (.getfield 42, 3) := by decide +kernel
theorem d_Mo_date_17 : decode b_Mo_date 17 = .ok (.iload_n 1, 1) := by decide +kernel
theorem d_Mo_date_18 : decode b_Mo_date 18 = .ok (.iaload, 1) := by decide +kernel
theorem d_Mo_date_19 : decode b_Mo_date 19 = .ok (.i2l, 1) := by decide +kernel
theorem d_Mo_date_20 : decode b_Mo_date 20 = .ok (.goto 6, 3) := by decide +kernel
theorem d_Mo_date_23 : decode b_Mo_date 23 = .ok (.ldc2_w 84, 3) := by decide +kernel
theorem d_Mo_date_26 : decode b_Mo_date 26 = .ok (.lreturn, 1) := by decide +kernel
theorem d_Mo_irregular_0 : decode b_Mo_irregular 0 = .ok (.aload_n 0, 1) := by decide +kernel
theorem d_Mo_irregular_1 : decode b_Mo_irregular 1 = .ok (.iconst 0, 1) := by decide +kernel
theorem d_Mo_irregular_2 : decode b_Mo_irregular 2 = .ok (.putfield 60, 3) := by decide +kernel
theorem d_Mo_irregular_5 : decode b_Mo_irregular 5 = .ok (.aload_n 0, 1) := by decide +kernel
theorem d_Mo_irregular_6 : decode b_Mo_irregular 6 = .ok (.iload_n 1, 1) := by decide +kernel
theorem d_Mo_irregular_7 : decode b_Mo_irregular 7 = .ok (.invokevirtual 160, 3) := by decide +kernel
theorem d_Mo_irregular_10 : decode b_Mo_irregular 10 = .ok (.ifCond .eq 20, 3) := by decide +kernel
theorem d_Mo_irregular_13 : decode b_Mo_irregular 13 = .ok (.iload_n 2, 1) := by decide +kernel
theorem d_Mo_irregular_14 : decode b_Mo_irregular 14 = .ok (.invokestatic 140, 3) := by decide +kernel
theorem d_Mo_irregular_17 : decode b_Mo_irregular 17 = .ok (.ifCond .eq 13, 3) := by decide +kernel
theorem d_Mo_irregular_20 : decode b_Mo_irregular 20 = .ok (.aload_n 0, 1) := by decide +kernel
theorem d_Mo_irregular_21 : decode b_Mo_irregular 21 = .ok (.getfield 54, 3) := by decide +kernel
theorem d_Mo_irregular_24 : decode b_Mo_irregular 24 = .ok (.iload_n 1, 1) := by decide +kernel
theorem d_Mo_irregular_25 : decode b_Mo_irregular 25 = .ok (.iaload, 1) := by decide +kernel
theorem d_Mo_irregular_26 : decode b_Mo_irregular 26 = .ok (.iconst (-1), 1) := by decide +kernel
theorem d_Mo_irregular_27 : decode b_Mo_irregular 27 = .ok (.if_icmp .eq 5, 3) := by decide +kernel
theorem d_Mo_irregular_30 : decode b_Mo_irregular 30 = .ok (.iconst 0, 1) := by decide +kernel
theorem d_Mo_irregular_31 : decode b_Mo_irregular 31 = .ok (.ireturn, 1) := by decide +kernel
theorem d_Mo_irregular_32 : decode b_Mo_irregular 32 = .ok (.aload_n 0, 1) := by decide +kernel
theorem d_Mo_irregular_33 : decode b_Mo_irregular 33 = .ok (.getfield 42, 3) := by decide +kernel
theorem d_Mo_irregular_36 : decode b_Mo_irregular 36 = .ok (.iload_n 1, 1) := by decide +kernel
theorem d_Mo_irregular_37 : decode b_Mo_irregular 37 = .ok (.iload_n 2, 1) := by decide +kernel
theorem d_Mo_irregular_38 : decode b_Mo_irregular 38 = .ok (.iastore, 1) := by decide +kernel
theorem d_Mo_irregular_39 : decode b_Mo_irregular 39 = .ok (.iconst 1, 1) := by decide +kernel
theorem d_Mo_irregular_40 : decode b_Mo_irregular 40 = .ok (.ireturn, 1) := by decide +kernel
theorem d_Mo_came_0 : decode b_Mo_came 0 = .ok (.aload_n 0, 1) := by decide +kernel
theorem d_Mo_came_1 : decode b_Mo_came 1 = .ok (.iconst 0, 1) := by decide +kernel
theorem d_Mo_came_2 : decode b_Mo_came 2 = .ok (.putfield 60, 3) := by decide +kernel
theorem d_Mo_came_5 : decode b_Mo_came 5 = .ok (.aload_n 0, 1) := by decide +kernel
theorem d_Mo_came_6 : decode b_Mo_came 6 = .ok (.iload_n 1, 1) := by decide +kernel
theorem d_Mo_came_7 : decode b_Mo_came 7 = .ok (.invokevirtual 160, 3) := by decide +kernel
theorem d_Mo_came_10 : decode b_Mo_came 10 = .ok (.ifCond .eq 20, 3) := by decide +kernel
theorem d_Mo_came_13 : decode b_Mo_came 13 = .ok (.iload_n 2, 1) := by decide +kernel
theorem d_Mo_came_14 : decode b_Mo_came 14 = .ok (.invokestatic 140, 3) := by decide +kernel
theorem d_Mo_came_17 : decode b_Mo_came 17 = .ok (.ifCond .eq 13, 3) := by decide +kernel
theorem d_Mo_came_20 : decode b_Mo_came 20 = .ok (.aload_n 0, 1) := by decide +kernel
theorem d_Mo_came_21 : decode b_Mo_came 21 = .ok (.getfield 54, 3) := by decide +kernel
theorem d_Mo_came_24 : decode b_Mo_came 24 = .ok (.iload_n 1, 1) := by decide +kernel
theorem d_Mo_came_25 : decode b_Mo_came 25 = .ok (.iaload, 1) := by decide +kernel
theorem d_Mo_came_26 : decode b_Mo_came 26 = .ok (.iconst (-1), 1) := by decide +kernel
theorem d_Mo_came_27 : decode b_Mo_came 27 = .ok (.if_icmp .eq 5, 3) := by decide +kernel
theorem d_Mo_came_30 : decode b_Mo_came 30 = .ok (.iconst 0, 1) := by decide +kernel
theorem d_Mo_came_31 : decode b_Mo_came 31 = .ok (.ireturn, 1) := by decide +kernel
theorem d_Mo_came_32 : decode b_Mo_came 32 = .ok (.aload_n 0, 1) := by decide +kernel
theorem d_Mo_came_33 : decode b_Mo_came 33 = .ok (.getfield 54, 3) := by decide +kernel
theorem d_Mo_came_36 : decode b_Mo_came 36 = .ok (.iload_n 1, 1) := by decide +kernel
theorem d_Mo_came_37 : decode b_Mo_came 37 = .ok (.iload_n 2, 1) := by decide +kernel
theorem d_Mo_came_38 : decode b_Mo_came 38 = .ok (.iastore, 1) := by decide +kernel
theorem d_Mo_came_39 : decode b_Mo_came 39 = .ok (.iconst 1, 1) := by decide +kernel
theorem d_Mo_came_40 : decode b_Mo_came 40 = .ok (.ireturn, 1) := by decide +kernel
theorem d_Mo_lateOn_0 : decode b_Mo_lateOn 0 = .ok (.aload_n 0, 1) := by decide +kernel
theorem d_Mo_lateOn_1 : decode b_Mo_lateOn 1 = .ok (.getfield 54, 3) := by decide +kernel
theorem d_Mo_lateOn_4 : decode b_Mo_lateOn 4 = .ok (.iload_n 1, 1) := by decide +kernel
theorem d_Mo_lateOn_5 : decode b_Mo_lateOn 5 = .ok (.iaload, 1) := by decide +kernel
theorem d_Mo_lateOn_6 : decode b_Mo_lateOn 6 = .ok (.iconst (-1), 1) := by decide +kernel
theorem d_Mo_lateOn_7 : decode b_Mo_lateOn 7 = .ok (.if_icmp .ne 7, 3) := by decide +kernel
theorem d_Mo_lateOn_10 : decode b_Mo_lateOn 10 = .ok (.iload_n 2, 1) := by decide +kernel
theorem d_Mo_lateOn_11 : decode b_Mo_lateOn 11 = .ok (.goto 9, 3) := by decide +kernel
theorem d_Mo_lateOn_14 : decode b_Mo_lateOn 14 = .ok (.aload_n 0, 1) := by decide +kernel
theorem d_Mo_lateOn_15 : decode b_Mo_lateOn 15 = .ok (.getfield 54, 3) := by decide +kernel
theorem d_Mo_lateOn_18 : decode b_Mo_lateOn 18 = .ok (.iload_n 1, 1) := by decide +kernel
theorem d_Mo_lateOn_19 : decode b_Mo_lateOn 19 = .ok (.iaload, 1) := by decide +kernel
theorem d_Mo_lateOn_20 : decode b_Mo_lateOn 20 = .ok (.aload_n 0, 1) := by decide +kernel
theorem d_Mo_lateOn_21 : decode b_Mo_lateOn 21 = .ok (.getfield 42, 3) := by decide +kernel
theorem d_Mo_lateOn_24 : decode b_Mo_lateOn 24 = .ok (.iload_n 1, 1) := by decide +kernel
theorem d_Mo_lateOn_25 : decode b_Mo_lateOn 25 = .ok (.iaload, 1) := by decide +kernel
theorem d_Mo_lateOn_26 : decode b_Mo_lateOn 26 = .ok (.isub, 1) := by decide +kernel
theorem d_Mo_lateOn_27 : decode b_Mo_lateOn 27 = .ok (.istore_n 3, 1) := by decide +kernel
theorem d_Mo_lateOn_28 : decode b_Mo_lateOn 28 = .ok (.iload_n 3, 1) := by decide +kernel
theorem d_Mo_lateOn_29 : decode b_Mo_lateOn 29 = .ok (.ifCond .le 7, 3) := by decide +kernel
theorem d_Mo_lateOn_32 : decode b_Mo_lateOn 32 = .ok (.iload_n 3, 1) := by decide +kernel
theorem d_Mo_lateOn_33 : decode b_Mo_lateOn 33 = .ok (.goto 4, 3) := by decide +kernel
theorem d_Mo_lateOn_36 : decode b_Mo_lateOn 36 = .ok (.iconst 0, 1) := by decide +kernel
theorem d_Mo_lateOn_37 : decode b_Mo_lateOn 37 = .ok (.ireturn, 1) := by decide +kernel
theorem d_Mo_late_0 : decode b_Mo_late 0 = .ok (.aload_n 0, 1) := by decide +kernel
theorem d_Mo_late_1 : decode b_Mo_late 1 = .ok (.iconst 0, 1) := by decide +kernel
theorem d_Mo_late_2 : decode b_Mo_late 2 = .ok (.putfield 60, 3) := by decide +kernel
theorem d_Mo_late_5 : decode b_Mo_late 5 = .ok (.aload_n 0, 1) := by decide +kernel
theorem d_Mo_late_6 : decode b_Mo_late 6 = .ok (.iload_n 1, 1) := by decide +kernel
theorem d_Mo_late_7 : decode b_Mo_late 7 = .ok (.invokevirtual 160, 3) := by decide +kernel
theorem d_Mo_late_10 : decode b_Mo_late 10 = .ok (.ifCond .eq 19, 3) := by decide +kernel
theorem d_Mo_late_13 : decode b_Mo_late 13 = .ok (.iload_n 2, 1) := by decide +kernel
theorem d_Mo_late_14 : decode b_Mo_late 14 = .ok (.invokestatic 140, 3) := by decide +kernel
theorem d_Mo_late_17 : decode b_Mo_late 17 = .ok (.ifCond .eq 12, 3) := by decide +kernel
theorem d_Mo_late_20 : decode b_Mo_late 20 = .ok (.aload_n 0, 1) := by decide +kernel
theorem d_Mo_late_21 : decode b_Mo_late 21 = .ok (.iload_n 1, 1) := by decide +kernel
theorem d_Mo_late_22 : decode b_Mo_late 22 = .ok (.iload_n 2, 1) := by decide +kernel
theorem d_Mo_late_23 : decode b_Mo_late 23 = .ok (.invokevirtual 166, 3) := by decide +kernel
theorem d_Mo_late_26 : decode b_Mo_late 26 = .ok (.goto 4, 3) := by decide +kernel
theorem d_Mo_late_29 : decode b_Mo_late 29 = .ok (.iconst (-1), 1) := by decide +kernel
theorem d_Mo_late_30 : decode b_Mo_late 30 = .ok (.ireturn, 1) := by decide +kernel
theorem d_Mo_isClaim_0 : decode b_Mo_isClaim 0 = .ok (.aload_n 0, 1) := by decide +kernel
theorem d_Mo_isClaim_1 : decode b_Mo_isClaim 1 = .ok (.getfield 54, 3) := by decide +kernel
theorem d_Mo_isClaim_4 : decode b_Mo_isClaim 4 = .ok (.iload_n 1, 1) := by decide +kernel
theorem d_Mo_isClaim_5 : decode b_Mo_isClaim 5 = .ok (.iaload, 1) := by decide +kernel
theorem d_Mo_isClaim_6 : decode b_Mo_isClaim 6 = .ok (.iconst (-1), 1) := by decide +kernel
theorem d_Mo_isClaim_7 : decode b_Mo_isClaim 7 = .ok (.if_icmp .ne 16, 3) := by decide +kernel
theorem d_Mo_isClaim_10 : decode b_Mo_isClaim 10 = .ok (.aload_n 0, 1) := by decide +kernel
theorem d_Mo_isClaim_11 : decode b_Mo_isClaim 11 = .ok (.iload_n 1, 1) := by decide +kernel
theorem d_Mo_isClaim_12 : decode b_Mo_isClaim 12 = .ok (.iload_n 2, 1) := by decide +kernel
theorem d_Mo_isClaim_13 : decode b_Mo_isClaim 13 = .ok (.invokevirtual 166, 3) := by decide +kernel
theorem d_Mo_isClaim_16 : decode b_Mo_isClaim 16 = .ok (.ifCond .le 7, 3) := by decide +kernel
theorem d_Mo_isClaim_19 : decode b_Mo_isClaim 19 = .ok (.iconst 1, 1) := by decide +kernel
theorem d_Mo_isClaim_20 : decode b_Mo_isClaim 20 = .ok (.goto 4, 3) := by decide +kernel
theorem d_Mo_isClaim_23 : decode b_Mo_isClaim 23 = .ok (.iconst 0, 1) := by decide +kernel
theorem d_Mo_isClaim_24 : decode b_Mo_isClaim 24 = .ok (.ireturn, 1) := by decide +kernel
theorem d_Mo_claim_0 : decode b_Mo_claim 0 = .ok (.aload_n 0, 1) := by decide +kernel
theorem d_Mo_claim_1 : decode b_Mo_claim 1 = .ok (.iconst 0, 1) := by decide +kernel
theorem d_Mo_claim_2 : decode b_Mo_claim 2 = .ok (.putfield 60, 3) := by decide +kernel
theorem d_Mo_claim_5 : decode b_Mo_claim 5 = .ok (.iconst 0, 1) := by decide +kernel
theorem d_Mo_claim_6 : decode b_Mo_claim 6 = .ok (.istore_n 3, 1) := by decide +kernel
theorem d_Mo_claim_7 : decode b_Mo_claim 7 = .ok (.iload_n 3, 1) := by decide +kernel
theorem d_Mo_claim_8 : decode b_Mo_claim 8 = .ok (.aload_n 0, 1) := by decide +kernel
theorem d_Mo_claim_9 : decode b_Mo_claim 9 = .ok (.getfield 150, 3) := by decide +kernel
theorem d_Mo_claim_12 : decode b_Mo_claim 12 = .ok (.if_icmp .ge 116, 3) := by decide +kernel
theorem d_Mo_claim_15 : decode b_Mo_claim 15 = .ok (.iload_n 2, 1) := by decide +kernel
theorem d_Mo_claim_16 : decode b_Mo_claim 16 = .ok (.ifCond .lt 112, 3) := by decide +kernel
theorem d_Mo_claim_19 : decode b_Mo_claim 19 = .ok (.iload_n 1, 1) := by decide +kernel
theorem d_Mo_claim_20 : decode b_Mo_claim 20 = .ok (.invokestatic 140, 3) := by decide +kernel
theorem d_Mo_claim_23 : decode b_Mo_claim 23 = .ok (.ifCond .eq 105, 3) := by decide +kernel
theorem d_Mo_claim_26 : decode b_Mo_claim 26 = .ok (.aload_n 0, 1) := by decide +kernel
theorem d_Mo_claim_27 : decode b_Mo_claim 27 = .ok (.iload_n 3, 1) := by decide +kernel
theorem d_Mo_claim_28 : decode b_Mo_claim 28 = .ok (.iload_n 1, 1) := by decide +kernel
theorem d_Mo_claim_29 : decode b_Mo_claim 29 = .ok (.invokevirtual 169, 3) := by decide +kernel
theorem d_Mo_claim_32 : decode b_Mo_claim 32 = .ok (.ifCond .eq 90, 3) := by decide +kernel
theorem d_Mo_claim_35 : decode b_Mo_claim 35 = .ok (.iconst 0, 1) := by decide +kernel
theorem d_Mo_claim_36 : decode b_Mo_claim 36 = .ok (.istore 4, 2) := by decide +kernel
theorem d_Mo_claim_38 : decode b_Mo_claim 38 = .ok (.iconst 0, 1) := by decide +kernel
theorem d_Mo_claim_39 : decode b_Mo_claim 39 = .ok (.istore 5, 2) := by decide +kernel
theorem d_Mo_claim_41 : decode b_Mo_claim 41 = .ok (.iload 5, 2) := by decide +kernel
theorem d_Mo_claim_43 : decode b_Mo_claim 43 = .ok (.aload_n 0, 1) := by decide +kernel
theorem d_Mo_claim_44 : decode b_Mo_claim 44 = .ok (.getfield 150, 3) := by decide +kernel
theorem d_Mo_claim_47 : decode b_Mo_claim 47 = .ok (.if_icmp .ge 67, 3) := by decide +kernel
theorem d_Mo_claim_50 : decode b_Mo_claim 50 = .ok (.iload 4, 2) := by decide +kernel
theorem d_Mo_claim_52 : decode b_Mo_claim 52 = .ok (.aload_n 0, 1) := by decide +kernel
theorem d_Mo_claim_53 : decode b_Mo_claim 53 = .ok (.iload 5, 2) := by decide +kernel
theorem d_Mo_claim_55 : decode b_Mo_claim 55 = .ok (.iload_n 1, 1) := by decide +kernel
theorem d_Mo_claim_56 : decode b_Mo_claim 56 = .ok (.invokevirtual 169, 3) := by decide +kernel
theorem d_Mo_claim_59 : decode b_Mo_claim 59 = .ok (.ifCond .eq 45, 3) := by decide +kernel
theorem d_Mo_claim_62 : decode b_Mo_claim 62 = .ok (.aload_n 0, 1) := by decide +kernel
theorem d_Mo_claim_63 : decode b_Mo_claim 63 = .ok (.iload 5, 2) := by decide +kernel
theorem d_Mo_claim_65 : decode b_Mo_claim 65 = .ok (.iload_n 1, 1) := by decide +kernel
theorem d_Mo_claim_66 : decode b_Mo_claim 66 = .ok (.invokevirtual 166, 3) := by decide +kernel
theorem d_Mo_claim_69 : decode b_Mo_claim 69 = .ok (.aload_n 0, 1) := by decide +kernel
theorem d_Mo_claim_70 : decode b_Mo_claim 70 = .ok (.iload_n 3, 1) := by decide +kernel
theorem d_Mo_claim_71 : decode b_Mo_claim 71 = .ok (.iload_n 1, 1) := by decide +kernel
theorem d_Mo_claim_72 : decode b_Mo_claim 72 = .ok (.invokevirtual 166, 3) := by decide +kernel
theorem d_Mo_claim_75 : decode b_Mo_claim 75 = .ok (.if_icmp .gt 25, 3) := by decide +kernel
theorem d_Mo_claim_78 : decode b_Mo_claim 78 = .ok (.aload_n 0, 1) := by decide +kernel
theorem d_Mo_claim_79 : decode b_Mo_claim 79 = .ok (.iload 5, 2) := by decide +kernel
theorem d_Mo_claim_81 : decode b_Mo_claim 81 = .ok (.iload_n 1, 1) := by decide +kernel
theorem d_Mo_claim_82 : decode b_Mo_claim 82 = .ok (.invokevirtual 166, 3) := by decide +kernel
theorem d_Mo_claim_85 : decode b_Mo_claim 85 = .ok (.aload_n 0, 1) := by decide +kernel
theorem d_Mo_claim_86 : decode b_Mo_claim 86 = .ok (.iload_n 3, 1) := by decide +kernel
theorem d_Mo_claim_87 : decode b_Mo_claim 87 = .ok (.iload_n 1, 1) := by decide +kernel
theorem d_Mo_claim_88 : decode b_Mo_claim 88 = .ok (.invokevirtual 166, 3) := by decide +kernel
theorem d_Mo_claim_91 : decode b_Mo_claim 91 = .ok (.if_icmp .ne 13, 3) := by decide +kernel
theorem d_Mo_claim_94 : decode b_Mo_claim 94 = .ok (.iload 5, 2) := by decide +kernel
theorem d_Mo_claim_96 : decode b_Mo_claim 96 = .ok (.iload_n 3, 1) := by decide +kernel
theorem d_Mo_claim_97 : decode b_Mo_claim 97 = .ok (.if_icmp .ge 7, 3) := by decide +kernel
theorem d_Mo_claim_100 : decode b_Mo_claim 100 = .ok (.iconst 1, 1) := by decide +kernel
theorem d_Mo_claim_101 : decode b_Mo_claim 101 = .ok (.goto 4, 3) := by decide +kernel
theorem d_Mo_claim_104 : decode b_Mo_claim 104 = .ok (.iconst 0, 1) := by decide +kernel
theorem d_Mo_claim_105 : decode b_Mo_claim 105 = .ok (.iadd, 1) := by decide +kernel
theorem d_Mo_claim_106 : decode b_Mo_claim 106 = .ok (.istore 4, 2) := by decide +kernel
theorem d_Mo_claim_108 : decode b_Mo_claim 108 = .ok (.iinc 5 1, 3) := by decide +kernel
theorem d_Mo_claim_111 : decode b_Mo_claim 111 = .ok (.goto (-70), 3) := by decide +kernel
theorem d_Mo_claim_114 : decode b_Mo_claim 114 = .ok (.iload 4, 2) := by decide +kernel
theorem d_Mo_claim_116 : decode b_Mo_claim 116 = .ok (.iload_n 2, 1) := by decide +kernel
theorem d_Mo_claim_117 : decode b_Mo_claim 117 = .ok (.if_icmp .ne 5, 3) := by decide +kernel
theorem d_Mo_claim_120 : decode b_Mo_claim 120 = .ok (.iload_n 3, 1) := by decide +kernel
theorem d_Mo_claim_121 : decode b_Mo_claim 121 = .ok (.ireturn, 1) := by decide +kernel
theorem d_Mo_claim_122 : decode b_Mo_claim 122 = .ok (.iinc 3 1, 3) := by decide +kernel
theorem d_Mo_claim_125 : decode b_Mo_claim 125 = .ok (.goto (-118), 3) := by decide +kernel
theorem d_Mo_claim_128 : decode b_Mo_claim 128 = .ok (.iconst (-1), 1) := by decide +kernel
theorem d_Mo_claim_129 : decode b_Mo_claim 129 = .ok (.ireturn, 1) := by decide +kernel
theorem d_Mo_print_0 : decode b_Mo_print 0 = .ok (.aload_n 0, 1) := by decide +kernel
theorem d_Mo_print_1 : decode b_Mo_print 1 = .ok (.iconst 0, 1) := by decide +kernel
theorem d_Mo_print_2 : decode b_Mo_print 2 = .ok (.putfield 60, 3) := by decide +kernel
theorem d_Mo_print_5 : decode b_Mo_print 5 = .ok (.aload_n 0, 1) := by decide +kernel
theorem d_Mo_print_6 : decode b_Mo_print 6 = .ok (.iload_n 1, 1) := by decide +kernel
theorem d_Mo_print_7 : decode b_Mo_print 7 = .ok (.invokevirtual 153, 3) := by decide +kernel
theorem d_Mo_print_10 : decode b_Mo_print 10 = .ok (.ifCond .ne 5, 3) := by decide +kernel
theorem d_Mo_print_13 : decode b_Mo_print 13 = .ok (.iconst 0, 1) := by decide +kernel
theorem d_Mo_print_14 : decode b_Mo_print 14 = .ok (.ireturn, 1) := by decide +kernel
theorem d_Mo_print_15 : decode b_Mo_print 15 = .ok (.aload_n 0, 1) := by decide +kernel
theorem d_Mo_print_16 : decode b_Mo_print 16 = .ok (.aload_n 0, 1) := by decide +kernel
theorem d_Mo_print_17 : decode b_Mo_print 17 = .ok (.getfield 33, 3) := by decide +kernel
theorem d_Mo_print_20 : decode b_Mo_print 20 = .ok (.iload_n 1, 1) := by decide +kernel
theorem d_Mo_print_21 : decode b_Mo_print 21 = .ok (.iaload, 1) := by decide +kernel
theorem d_Mo_print_22 : decode b_Mo_print 22 = .ok (.putfield 172, 3) := by decide +kernel
theorem d_Mo_print_25 : decode b_Mo_print 25 = .ok (.iconst 0, 1) := by decide +kernel
theorem d_Mo_print_26 : decode b_Mo_print 26 = .ok (.istore_n 2, 1) := by decide +kernel
theorem d_Mo_print_27 : decode b_Mo_print 27 = .ok (.iload_n 2, 1) := by decide +kernel
theorem d_Mo_print_28 : decode b_Mo_print 28 = .ok (.aload_n 0, 1) := by decide +kernel
theorem d_Mo_print_29 : decode b_Mo_print 29 = .ok (.getfield 172, 3) := by decide +kernel
theorem d_Mo_print_32 : decode b_Mo_print 32 = .ok (.if_icmp .ge 26, 3) := by decide +kernel
theorem d_Mo_print_35 : decode b_Mo_print 35 = .ok (.aload_n 0, 1) := by decide +kernel
theorem d_Mo_print_36 : decode b_Mo_print 36 = .ok (.getfield 57, 3) := by decide +kernel
theorem d_Mo_print_39 : decode b_Mo_print 39 = .ok (.iload_n 2, 1) := by decide +kernel
theorem d_Mo_print_40 : decode b_Mo_print 40 = .ok (.aload_n 0, 1) := by decide +kernel
theorem d_Mo_print_41 : decode b_Mo_print 41 = .ok (.getfield 30, 3) := by decide +kernel
theorem d_Mo_print_44 : decode b_Mo_print 44 = .ok (.bipush 120, 2) := by decide +kernel
theorem d_Mo_print_46 : decode b_Mo_print 46 = .ok (.iload_n 1, 1) := by decide +kernel
theorem d_Mo_print_47 : decode b_Mo_print 47 = .ok (.imul, 1) := by decide +kernel
theorem d_Mo_print_48 : decode b_Mo_print 48 = .ok (.iload_n 2, 1) := by decide +kernel
theorem d_Mo_print_49 : decode b_Mo_print 49 = .ok (.iadd, 1) := by decide +kernel
theorem d_Mo_print_50 : decode b_Mo_print 50 = .ok (.baload, 1) := by decide +kernel
theorem d_Mo_print_51 : decode b_Mo_print 51 = .ok (.bastore, 1) := by decide +kernel
theorem d_Mo_print_52 : decode b_Mo_print 52 = .ok (.iinc 2 1, 3) := by decide +kernel
theorem d_Mo_print_55 : decode b_Mo_print 55 = .ok (.goto (-28), 3) := by decide +kernel
theorem d_Mo_print_58 : decode b_Mo_print 58 = .ok (.aload_n 0, 1) := by decide +kernel
theorem d_Mo_print_59 : decode b_Mo_print 59 = .ok (.getfield 172, 3) := by decide +kernel
theorem d_Mo_print_62 : decode b_Mo_print 62 = .ok (.ireturn, 1) := by decide +kernel
theorem d_Mo_at_0 : decode b_Mo_at 0 = .ok (.aload_n 0, 1) := by decide +kernel
theorem d_Mo_at_1 : decode b_Mo_at 1 = .ok (.iconst 0, 1) := by decide +kernel
theorem d_Mo_at_2 : decode b_Mo_at 2 = .ok (.putfield 60, 3) := by decide +kernel
theorem d_Mo_at_5 : decode b_Mo_at 5 = .ok (.iload_n 1, 1) := by decide +kernel
theorem d_Mo_at_6 : decode b_Mo_at 6 = .ok (.ifCond .lt 11, 3) := by decide +kernel
theorem d_Mo_at_9 : decode b_Mo_at 9 = .ok (.iload_n 1, 1) := by decide +kernel
theorem d_Mo_at_10 : decode b_Mo_at 10 = .ok (.aload_n 0, 1) := by decide +kernel
theorem d_Mo_at_11 : decode b_Mo_at 11 = .ok (.getfield 172, 3) := by decide +kernel
theorem d_Mo_at_14 : decode b_Mo_at 14 = .ok (.if_icmp .lt 7, 3) := by decide +kernel
theorem d_Mo_at_17 : decode b_Mo_at 17 = .ok (.iconst (-1), 1) := by decide +kernel
theorem d_Mo_at_18 : decode b_Mo_at 18 = .ok (.goto 13, 3) := by decide +kernel
theorem d_Mo_at_21 : decode b_Mo_at 21 = .ok (.aload_n 0, 1) := by decide +kernel
theorem d_Mo_at_22 : decode b_Mo_at 22 = .ok (.getfield 57, 3) := by decide +kernel
theorem d_Mo_at_25 : decode b_Mo_at 25 = .ok (.iload_n 1, 1) := by decide +kernel
theorem d_Mo_at_26 : decode b_Mo_at 26 = .ok (.baload, 1) := by decide +kernel
theorem d_Mo_at_27 : decode b_Mo_at 27 = .ok (.sipush 255, 3) := by decide +kernel
theorem d_Mo_at_30 : decode b_Mo_at 30 = .ok (.iand, 1) := by decide +kernel
theorem d_Mo_at_31 : decode b_Mo_at 31 = .ok (.ireturn, 1) := by decide +kernel
theorem d_Mo_yearly_0 : decode b_Mo_yearly 0 = .ok (.aload_n 0, 1) := by decide +kernel
theorem d_Mo_yearly_1 : decode b_Mo_yearly 1 = .ok (.iconst 0, 1) := by decide +kernel
theorem d_Mo_yearly_2 : decode b_Mo_yearly 2 = .ok (.putfield 60, 3) := by decide +kernel
theorem d_Mo_yearly_5 : decode b_Mo_yearly 5 = .ok (.aload_n 0, 1) := by decide +kernel
theorem d_Mo_yearly_6 : decode b_Mo_yearly 6 = .ok (.iload_n 1, 1) := by decide +kernel
theorem d_Mo_yearly_7 : decode b_Mo_yearly 7 = .ok (.invokevirtual 153, 3) := by decide +kernel
theorem d_Mo_yearly_10 : decode b_Mo_yearly 10 = .ok (.ifCond .eq 10, 3) := by decide +kernel
theorem d_Mo_yearly_13 : decode b_Mo_yearly 13 = .ok (.iload_n 2, 1) := by decide +kernel
theorem d_Mo_yearly_14 : decode b_Mo_yearly 14 = .ok (.invokestatic 140, 3) := by decide +kernel
theorem d_Mo_yearly_17 : decode b_Mo_yearly 17 = .ok (.ifCond .ne 5, 3) := by decide +kernel
theorem d_Mo_yearly_20 : decode b_Mo_yearly 20 = .ok (.iconst (-1), 1) := by decide +kernel
theorem d_Mo_yearly_21 : decode b_Mo_yearly 21 = .ok (.ireturn, 1) := by decide +kernel
theorem d_Mo_yearly_22 : decode b_Mo_yearly 22 = .ok (.iload_n 3, 1) := by decide +kernel
theorem d_Mo_yearly_23 : decode b_Mo_yearly 23 = .ok (.ifCond .ne 10, 3) := by decide +kernel
theorem d_Mo_yearly_26 : decode b_Mo_yearly 26 = .ok (.aload_n 0, 1) := by decide +kernel
theorem d_Mo_yearly_27 : decode b_Mo_yearly 27 = .ok (.iconst 1, 1) := by decide +kernel
theorem d_Mo_yearly_28 : decode b_Mo_yearly 28 = .ok (.putfield 60, 3) := by decide +kernel
theorem d_Mo_yearly_31 : decode b_Mo_yearly 31 = .ok (.iconst 0, 1) := by decide +kernel
theorem d_Mo_yearly_32 : decode b_Mo_yearly 32 = .ok (.ireturn, 1) := by decide +kernel
theorem d_Mo_yearly_33 : decode b_Mo_yearly 33 = .ok (.iconst 0, 1) := by decide +kernel
theorem d_Mo_yearly_34 : decode b_Mo_yearly 34 = .ok (.istore 4, 2) := by decide +kernel
theorem d_Mo_yearly_36 : decode b_Mo_yearly 36 = .ok (.iload_n 2, 1) := by decide +kernel
theorem d_Mo_yearly_37 : decode b_Mo_yearly 37 = .ok (.istore 5, 2) := by decide +kernel
theorem d_Mo_yearly_39 : decode b_Mo_yearly 39 = .ok (.iload 5, 2) := by decide +kernel
theorem d_Mo_yearly_41 : decode b_Mo_yearly 41 = .ok (.iload_n 2, 1) := by decide +kernel
theorem d_Mo_yearly_42 : decode b_Mo_yearly 42 = .ok (.sipush 360, 3) := by decide +kernel
theorem d_Mo_yearly_45 : decode b_Mo_yearly 45 = .ok (.iadd, 1) := by decide +kernel
theorem d_Mo_yearly_46 : decode b_Mo_yearly 46 = .ok (.if_icmp .ge 44, 3) := by decide +kernel
theorem d_Mo_yearly_49 : decode b_Mo_yearly 49 = .ok (.iload 5, 2) := by decide +kernel
theorem d_Mo_yearly_51 : decode b_Mo_yearly 51 = .ok (.ldc 136, 2) := by decide +kernel
theorem d_Mo_yearly_53 : decode b_Mo_yearly 53 = .ok (.if_icmp .gt 37, 3) := by decide +kernel
theorem d_Mo_yearly_56 : decode b_Mo_yearly 56 = .ok (.iload 4, 2) := by decide +kernel
theorem d_Mo_yearly_58 : decode b_Mo_yearly 58 = .ok (.aload_n 0, 1) := by decide +kernel
theorem d_Mo_yearly_59 : decode b_Mo_yearly 59 = .ok (.iload_n 1, 1) := by decide +kernel
theorem d_Mo_yearly_60 : decode b_Mo_yearly 60 = .ok (.iload 5, 2) := by decide +kernel
theorem d_Mo_yearly_62 : decode b_Mo_yearly 62 = .ok (.invokevirtual 146, 3) := by decide +kernel
theorem d_Mo_yearly_65 : decode b_Mo_yearly 65 = .ok (.ifCond .eq 7, 3) := by decide +kernel
theorem d_Mo_yearly_68 : decode b_Mo_yearly 68 = .ok (.iconst 1, 1) := by decide +kernel
theorem d_Mo_yearly_69 : decode b_Mo_yearly 69 = .ok (.goto 4, 3) := by decide +kernel
theorem d_Mo_yearly_72 : decode b_Mo_yearly 72 = .ok (.iconst 0, 1) := by decide +kernel
theorem d_Mo_yearly_73 : decode b_Mo_yearly 73 = .ok (.iadd, 1) := by decide +kernel
theorem d_Mo_yearly_74 : decode b_Mo_yearly 74 = .ok (.istore 4, 2) := by decide +kernel
theorem d_Mo_yearly_76 : decode b_Mo_yearly 76 = .ok (.iload 5, 2) := by decide +kernel
theorem d_Mo_yearly_78 : decode b_Mo_yearly 78 = .ok (.aload_n 0, 1) := by decide +kernel
theorem d_Mo_yearly_79 : decode b_Mo_yearly 79 = .ok (.getfield 13, 3) := by decide +kernel
theorem d_Mo_yearly_82 : decode b_Mo_yearly 82 = .ok (.iload_n 1, 1) := by decide +kernel
theorem d_Mo_yearly_83 : decode b_Mo_yearly 83 = .ok (.iaload, 1) := by decide +kernel
theorem d_Mo_yearly_84 : decode b_Mo_yearly 84 = .ok (.iadd, 1) := by decide +kernel
theorem d_Mo_yearly_85 : decode b_Mo_yearly 85 = .ok (.istore 5, 2) := by decide +kernel
theorem d_Mo_yearly_87 : decode b_Mo_yearly 87 = .ok (.goto (-48), 3) := by decide +kernel
theorem d_Mo_yearly_90 : decode b_Mo_yearly 90 = .ok (.iload 4, 2) := by decide +kernel
theorem d_Mo_yearly_92 : decode b_Mo_yearly 92 = .ok (.iload_n 3, 1) := by decide +kernel
theorem d_Mo_yearly_93 : decode b_Mo_yearly 93 = .ok (.idiv, 1) := by decide +kernel
theorem d_Mo_yearly_94 : decode b_Mo_yearly 94 = .ok (.ireturn, 1) := by decide +kernel
end
section
/-! decode rows of PatternText -/
theorem d_Pa_init_0 : decode b_Pa_init 0 = .ok (.aload_n 0, 1) := by decide +kernel
theorem d_Pa_init_1 : decode b_Pa_init 1 = .ok (.invokespecial 1, 3) := by decide +kernel
theorem d_Pa_init_4 : decode b_Pa_init 4 = .ok (.aload_n 0, 1) := by decide +kernel
theorem d_Pa_init_5 : decode b_Pa_init 5 = .ok (.new 7, 3) := by decide +kernel
theorem d_Pa_init_8 : decode b_Pa_init 8 = .ok (.dup, 1) := by decide +kernel
theorem d_Pa_init_9 : decode b_Pa_init 9 = .ok (.invokespecial 9, 3) := by decide +kernel
theorem d_Pa_init_12 : decode b_Pa_init 12 = .ok (.putfield 10, 3) := by decide +kernel
theorem d_Pa_init_15 : decode b_Pa_init 15 = .ok (.aload_n 0, 1) := by decide +kernel
theorem d_Pa_init_16 : decode b_Pa_init 16 = .ok (.bipush 10, 2) := by decide +kernel
theorem d_Pa_init_18 : decode b_Pa_init 18 = .ok (.anewarray 16, 3) := by decide +kernel
theorem d_Pa_init_21 : decode b_Pa_init 21 = .ok (.putfield 18, 3) := by decide +kernel
theorem d_Pa_init_24 : decode b_Pa_init 24 = .ok (.aload_n 0, 1) := by decide +kernel
theorem d_Pa_init_25 : decode b_Pa_init 25 = .ok (.new 22, 3) := by decide +kernel
theorem d_Pa_init_28 : decode b_Pa_init 28 = .ok (.dup, 1) := by decide +kernel
theorem d_Pa_init_29 : decode b_Pa_init 29 = .ok (.invokespecial 24, 3) := by decide +kernel
theorem d_Pa_init_32 : decode b_Pa_init 32 = .ok (.putfield 25, 3) := by decide +kernel
theorem d_Pa_init_35 : decode b_Pa_init 35 = .ok (.aload_n 0, 1) := by decide +kernel
theorem d_Pa_init_36 : decode b_Pa_init 36 = .ok (.new 29, 3) := by decide +kernel
theorem d_Pa_init_39 : decode b_Pa_init 39 = .ok (.dup, 1) := by decide +kernel
theorem d_Pa_init_40 : decode b_Pa_init 40 = .ok (.invokespecial 31, 3) := by decide +kernel
theorem d_Pa_init_43 : decode b_Pa_init 43 = .ok (.putfield 32, 3) := by decide +kernel
theorem d_Pa_init_46 : decode b_Pa_init 46 = .ok (.aload_n 0, 1) := by decide +kernel
theorem d_Pa_init_47 : decode b_Pa_init 47 = .ok (.iconst 0, 1) := by decide +kernel
theorem d_Pa_init_48 : decode b_Pa_init 48 = .ok (.putfield 36, 3) := by decide +kernel
theorem d_Pa_init_51 : decode b_Pa_init 51 = .ok (.aload_n 0, 1) := by decide +kernel
theorem d_Pa_init_52 : decode b_Pa_init 52 = .ok (.aconst_null, 1) := by decide +kernel
theorem d_Pa_init_53 : decode b_Pa_init 53 = .ok (.putfield 40, 3) := by decide +kernel
theorem d_Pa_init_56 : decode b_Pa_init 56 = .ok (.return_, 1) := by decide +kernel
theorem d_Pa_sign_0 : decode b_Pa_sign 0 = .ok (.aload_n 0, 1) := by decide +kernel
theorem d_Pa_sign_1 : decode b_Pa_sign 1 = .ok (.getfield 10, 3) := by decide +kernel
theorem d_Pa_sign_4 : decode b_Pa_sign 4 = .ok (.iload_n 1, 1) := by decide +kernel
theorem d_Pa_sign_5 : decode b_Pa_sign 5 = .ok (.sipush 255, 3) := by decide +kernel
theorem d_Pa_sign_8 : decode b_Pa_sign 8 = .ok (.iand, 1) := by decide +kernel
theorem d_Pa_sign_9 : decode b_Pa_sign 9 = .ok (.invokevirtual 44, 3) := by decide +kernel
theorem d_Pa_sign_12 : decode b_Pa_sign 12 = .ok (.return_, 1) := by decide +kernel
theorem d_Pa_read_0 : decode b_Pa_read 0 = .ok (.aload_n 0, 1) := by decide +kernel
theorem d_Pa_read_1 : decode b_Pa_read 1 = .ok (.getfield 10, 3) := by decide +kernel
theorem d_Pa_read_4 : decode b_Pa_read 4 = .ok (.invokevirtual 48, 3) := by decide +kernel
theorem d_Pa_read_7 : decode b_Pa_read 7 = .ok (.istore_n 1, 1) := by decide +kernel
theorem d_Pa_read_8 : decode b_Pa_read 8 = .ok (.aload_n 0, 1) := by decide +kernel
theorem d_Pa_read_9 : decode b_Pa_read 9 = .ok (.getfield 10, 3) := by decide +kernel
theorem d_Pa_read_12 : decode b_Pa_read 12 = .ok (.getfield 52, 3) := by decide +kernel
theorem d_Pa_read_15 : decode b_Pa_read 15 = .ok (.istore_n 2, 1) := by decide +kernel
theorem d_Pa_read_16 : decode b_Pa_read 16 = .ok (.iload_n 1, 1) := by decide +kernel
theorem d_Pa_read_17 : decode b_Pa_read 17 = .ok (.ifCond .eq 10, 3) := by decide +kernel
theorem d_Pa_read_20 : decode b_Pa_read 20 = .ok (.aload_n 0, 1) := by decide +kernel
theorem d_Pa_read_21 : decode b_Pa_read 21 = .ok (.invokevirtual 55, 3) := by decide +kernel
theorem d_Pa_read_24 : decode b_Pa_read 24 = .ok (.goto 6, 3) := by decide +kernel
theorem d_Pa_read_27 : decode b_Pa_read 27 = .ok (.iconst (-1), 1) := by decide +kernel
theorem d_Pa_read_28 : decode b_Pa_read 28 = .ok (.iload_n 2, 1) := by decide +kernel
theorem d_Pa_read_29 : decode b_Pa_read 29 = .ok (.isub, 1) := by decide +kernel
theorem d_Pa_read_30 : decode b_Pa_read 30 = .ok (.istore_n 3, 1) := by decide +kernel
theorem d_Pa_read_31 : decode b_Pa_read 31 = .ok (.aload_n 0, 1) := by decide +kernel
theorem d_Pa_read_32 : decode b_Pa_read 32 = .ok (.getfield 10, 3) := by decide +kernel
theorem d_Pa_read_35 : decode b_Pa_read 35 = .ok (.invokevirtual 59, 3) := by decide +kernel
theorem d_Pa_read_38 : decode b_Pa_read 38 = .ok (.iload_n 3, 1) := by decide +kernel
theorem d_Pa_read_39 : decode b_Pa_read 39 = .ok (.ireturn, 1) := by decide +kernel
theorem d_Pa_foretell_0 : decode b_Pa_foretell 0 = .ok (.aload_n 0, 1) := by decide +kernel
theorem d_Pa_foretell_1 : decode b_Pa_foretell 1 = .ok (.iload_n 1, 1) := by decide +kernel
theorem d_Pa_foretell_2 : decode b_Pa_foretell 2 = .ok (.invokevirtual 62, 3) := by decide +kernel
theorem d_Pa_foretell_5 : decode b_Pa_foretell 5 = .ok (.astore 4, 2) := by decide +kernel
theorem d_Pa_foretell_7 : decode b_Pa_foretell 7 = .ok (.aload 4, 2) := by decide +kernel
theorem d_Pa_foretell_9 : decode b_Pa_foretell 9 = .ok (.ifnull 21, 3) := by decide +kernel
theorem d_Pa_foretell_12 : decode b_Pa_foretell 12 = .ok (.iload_n 2, 1) := by decide +kernel
theorem d_Pa_foretell_13 : decode b_Pa_foretell 13 = .ok (.invokestatic 66, 3) := by decide +kernel
theorem d_Pa_foretell_16 : decode b_Pa_foretell 16 = .ok (.ifCond .eq 14, 3) := by decide +kernel
theorem d_Pa_foretell_19 : decode b_Pa_foretell 19 = .ok (.iload_n 3, 1) := by decide +kernel
theorem d_Pa_foretell_20 : decode b_Pa_foretell 20 = .ok (.iconst 1, 1) := by decide +kernel
theorem d_Pa_foretell_21 : decode b_Pa_foretell 21 = .ok (.if_icmp .lt 9, 3) := by decide +kernel
theorem d_Pa_foretell_24 : decode b_Pa_foretell 24 = .ok (.iload_n 3, 1) := by decide +kernel
theorem d_Pa_foretell_25 : decode b_Pa_foretell 25 = .ok (.bipush 100, 2) := by decide +kernel
theorem d_Pa_foretell_27 : decode b_Pa_foretell 27 = .ok (.if_icmp .le 5, 3) := by decide +kernel
theorem d_Pa_foretell_30 : decode b_Pa_foretell 30 = .ok (.iconst (-1), 1) := by decide +kernel
theorem d_Pa_foretell_31 : decode b_Pa_foretell 31 = .ok (.ireturn, 1) := by decide +kernel
theorem d_Pa_foretell_32 : decode b_Pa_foretell 32 = .ok (.aload_n 0, 1) := by decide +kernel
theorem d_Pa_foretell_33 : decode b_Pa_foretell 33 = .ok (.getfield 32, 3) := by decide +kernel
theorem d_Pa_foretell_36 : decode b_Pa_foretell 36 = .ok (.iconst 0, 1) := by decide +kernel
theorem d_Pa_foretell_37 : decode b_Pa_foretell 37 = .ok (.invokevirtual 70, 3) := by decide +kernel
theorem d_Pa_foretell_40 : decode b_Pa_foretell 40 = .ok (.aload_n 0, 1) := by decide +kernel
theorem d_Pa_foretell_41 : decode b_Pa_foretell 41 = .ok (.getfield 32, 3) := by decide +kernel
theorem d_Pa_foretell_44 : decode b_Pa_foretell 44 = .ok (.aload 4, 2) := by decide +kernel
theorem d_Pa_foretell_46 : decode b_Pa_foretell 46 = .ok (.iload_n 2, 1) := by decide +kernel
theorem d_Pa_foretell_47 : decode b_Pa_foretell 47 = .ok (.iload_n 3, 1) := by decide +kernel
theorem d_Pa_foretell_48 : decode b_Pa_foretell 48 = .ok (.aload_n 0, 1) := by decide +kernel
theorem d_Pa_foretell_49 : decode b_Pa_foretell 49 = .ok (.getfield 25, 3) := by decide +kernel
theorem d_Pa_foretell_52 : decode b_Pa_foretell 52 = .ok (.invokevirtual 73, 3) := by decide +kernel
theorem d_Pa_foretell_55 : decode b_Pa_foretell 55 = .ok (.aload_n 0, 1) := by decide +kernel
theorem d_Pa_foretell_56 : decode b_Pa_foretell 56 = .ok (.getfield 32, 3) := by decide +kernel
theorem d_Pa_foretell_59 : decode b_Pa_foretell 59 = .ok (.getfield 77, 3) := by decide +kernel
theorem d_Pa_foretell_62 : decode b_Pa_foretell 62 = .ok (.ireturn, 1) := by decide +kernel
theorem d_Pa_changed_0 : decode b_Pa_changed 0 = .ok (.aload_n 0, 1) := by decide +kernel
theorem d_Pa_changed_1 : decode b_Pa_changed 1 = .ok (.iload_n 1, 1) := by decide +kernel
theorem d_Pa_changed_2 : decode b_Pa_changed 2 = .ok (.invokevirtual 62, 3) := by decide +kernel
theorem d_Pa_changed_5 : decode b_Pa_changed 5 = .ok (.astore_n 3, 1) := by decide +kernel
theorem d_Pa_changed_6 : decode b_Pa_changed 6 = .ok (.aload_n 3, 1) := by decide +kernel
theorem d_Pa_changed_7 : decode b_Pa_changed 7 = .ok (.ifnull 10, 3) := by decide +kernel
theorem d_Pa_changed_10 : decode b_Pa_changed 10 = .ok (.iload_n 2, 1) := by decide +kernel
theorem d_Pa_changed_11 : decode b_Pa_changed 11 = .ok (.invokestatic 66, 3) := by decide +kernel
theorem d_Pa_changed_14 : decode b_Pa_changed 14 = .ok (.ifCond .ne 5, 3) := by decide +kernel
theorem d_Pa_changed_17 : decode b_Pa_changed 17 = .ok (.iconst (-1), 1) := by decide +kernel
theorem d_Pa_changed_18 : decode b_Pa_changed 18 = .ok (.ireturn, 1) := by decide +kernel
theorem d_Pa_changed_19 : decode b_Pa_changed 19 = .ok (.aload_n 0, 1) := by decide +kernel
theorem d_Pa_changed_20 : decode b_Pa_changed 20 = .ok (.getfield 32, 3) := by decide +kernel
theorem d_Pa_changed_23 : decode b_Pa_changed 23 = .ok (.iload_n 2, 1) := by decide +kernel
theorem d_Pa_changed_24 : decode b_Pa_changed 24 = .ok (.invokevirtual 80, 3) := by decide +kernel
theorem d_Pa_changed_27 : decode b_Pa_changed 27 = .ok (.istore 4, 2) := by decide +kernel
theorem d_Pa_changed_29 : decode b_Pa_changed 29 = .ok (.aload_n 0, 1) := by decide +kernel
theorem d_Pa_changed_30 : decode b_Pa_changed 30 = .ok (.getfield 32, 3) := by decide +kernel
theorem d_Pa_changed_33 : decode b_Pa_changed 33 = .ok (.iload 4, 2) := by decide +kernel
theorem d_Pa_changed_35 : decode b_Pa_changed 35 = .ok (.invokevirtual 84, 3) := by decide +kernel
theorem d_Pa_changed_38 : decode b_Pa_changed 38 = .ok (.ifCond .eq 5, 3) := by decide +kernel
theorem d_Pa_changed_41 : decode b_Pa_changed 41 = .ok (.iconst (-1), 1) := by decide +kernel
theorem d_Pa_changed_42 : decode b_Pa_changed 42 = .ok (.ireturn, 1) := by decide +kernel
theorem d_Pa_changed_43 : decode b_Pa_changed 43 = .ok (.aload_n 0, 1) := by decide +kernel
theorem d_Pa_changed_44 : decode b_Pa_changed 44 = .ok (.getfield 32, 3) := by decide +kernel
theorem d_Pa_changed_47 : decode b_Pa_changed 47 = .ok (.getfield 77, 3) := by decide +kernel
theorem d_Pa_changed_50 : decode b_Pa_changed 50 = .ok (.iload 4, 2) := by decide +kernel
theorem d_Pa_changed_52 : decode b_Pa_changed 52 = .ok (.isub, 1) := by decide +kernel
theorem d_Pa_changed_53 : decode b_Pa_changed 53 = .ok (.istore 5, 2) := by decide +kernel
theorem d_Pa_changed_55 : decode b_Pa_changed 55 = .ok (.aload_n 0, 1) := by decide +kernel
theorem d_Pa_changed_56 : decode b_Pa_changed 56 = .ok (.getfield 32, 3) := by decide +kernel
theorem d_Pa_changed_59 : decode b_Pa_changed 59 = .ok (.iload 4, 2) := by decide +kernel
theorem d_Pa_changed_61 : decode b_Pa_changed 61 = .ok (.invokevirtual 70, 3) := by decide +kernel
theorem d_Pa_changed_64 : decode b_Pa_changed 64 = .ok (.aload_n 0, 1) := by decide +kernel
theorem d_Pa_changed_65 : decode b_Pa_changed 65 = .ok (.getfield 32, 3) := by decide +kernel
theorem d_Pa_changed_68 : decode b_Pa_changed 68 = .ok (.aload_n 3, 1) := by decide +kernel
theorem d_Pa_changed_69 : decode b_Pa_changed 69 = .ok (.iload_n 2, 1) := by decide +kernel
theorem d_Pa_changed_70 : decode b_Pa_changed 70 = .ok (.iload 5, 2) := by decide +kernel
theorem d_Pa_changed_72 : decode b_Pa_changed 72 = .ok (.aload_n 0, 1) := by decide +kernel
theorem d_Pa_changed_73 : decode b_Pa_changed 73 = .ok (.getfield 25, 3) := by decide +kernel
theorem d_Pa_changed_76 : decode b_Pa_changed 76 = .ok (.invokevirtual 73, 3) := by decide +kernel
theorem d_Pa_changed_79 : decode b_Pa_changed 79 = .ok (.iload 5, 2) := by decide +kernel
theorem d_Pa_changed_81 : decode b_Pa_changed 81 = .ok (.ireturn, 1) := by decide +kernel
theorem d_Pa_issue_0 : decode b_Pa_issue 0 = .ok (.aload_n 0, 1) := by decide +kernel
theorem d_Pa_issue_1 : decode b_Pa_issue 1 = .ok (.getfield 32, 3) := by decide +kernel
theorem d_Pa_issue_4 : decode b_Pa_issue 4 = .ok (.iload_n 1, 1) := by decide +kernel
theorem d_Pa_issue_5 : decode b_Pa_issue 5 = .ok (.invokevirtual 87, 3) := by decide +kernel
theorem d_Pa_issue_8 : decode b_Pa_issue 8 = .ok (.ifCond .ne 5, 3) := by decide +kernel
theorem d_Pa_issue_11 : decode b_Pa_issue 11 = .ok (.iconst (-1), 1) := by decide +kernel
theorem d_Pa_issue_12 : decode b_Pa_issue 12 = .ok (.ireturn, 1) := by decide +kernel
theorem d_Pa_issue_13 : decode b_Pa_issue 13 = .ok (.iload_n 2, 1) := by decide +kernel
theorem d_Pa_issue_14 : decode b_Pa_issue 14 = .ok (.tableswitch 105 0 5 #[38, 48, 58, 68, 78, 88], 38) := by decide +kernel
theorem d_Pa_issue_52 : decode b_Pa_issue 52 = .ok (.aload_n 0, 1) := by decide +kernel
theorem d_Pa_issue_53 : decode b_Pa_issue 53 = .ok (.getfield 32, 3) := by decide +kernel
theorem d_Pa_issue_56 : decode b_Pa_issue 56 = .ok (.getfield 90, 3) := by decide +kernel
theorem d_Pa_issue_59 : decode b_Pa_issue 59 = .ok (.iload_n 1, 1) := by decide +kernel
theorem d_Pa_issue_60 : decode b_Pa_issue 60 = .ok (.iaload, 1) := by decide +kernel
theorem d_Pa_issue_61 : decode b_Pa_issue 61 = .ok (.ireturn, 1) := by decide +kernel
theorem d_Pa_issue_62 : decode b_Pa_issue 62 = .ok (.aload_n 0, 1) := by decide +kernel
theorem d_Pa_issue_63 : decode b_Pa_issue 63 = .ok (.getfield 32, 3) := by decide +kernel
theorem d_Pa_issue_66 : decode b_Pa_issue 66 = .ok (.getfield 94, 3) := by decide +kernel
theorem d_Pa_issue_69 : decode b_Pa_issue 69 = .ok (.iload_n 1, 1) := by decide +kernel
theorem d_Pa_issue_70 : decode b_Pa_issue 70 = .ok (.iaload, 1) := by decide +kernel
theorem d_Pa_issue_71 : decode b_Pa_issue 71 = .ok (.ireturn, 1) := by decide +kernel
theorem d_Pa_issue_72 : decode b_Pa_issue 72 = .ok (.aload_n 0, 1) := by decide +kernel
theorem d_Pa_issue_73 : decode b_Pa_issue 73 = .ok (.getfield 32, 3) := by decide +kernel
theorem d_Pa_issue_76 : decode b_Pa_issue 76 = .ok (.getfield 97, 3) := by decide +kernel
theorem d_Pa_issue_79 : decode b_Pa_issue 79 = .ok (.iload_n 1, 1) := by decide +kernel
theorem d_Pa_issue_80 : decode b_Pa_issue 80 = .ok (.iaload, 1) := by decide +kernel
theorem d_Pa_issue_81 : decode b_Pa_issue 81 = .ok (.ireturn, 1) := by decide +kernel
theorem d_Pa_issue_82 : decode b_Pa_issue 82 = .ok (.aload_n 0, 1) := by decide +kernel
theorem d_Pa_issue_83 : decode b_Pa_issue 83 = .ok (.getfield 32, 3) := by decide +kernel
theorem d_Pa_issue_86 : decode b_Pa_issue 86 = .ok (.getfield 100, 3) := by decide +kernel
theorem d_Pa_issue_89 : decode b_Pa_issue 89 = .ok (.iload_n 1, 1) := by decide +kernel
theorem d_Pa_issue_90 : decode b_Pa_issue 90 = .ok (.iaload, 1) := by decide +kernel
theorem d_Pa_issue_91 : decode b_Pa_issue 91 = .ok (.ireturn, 1) := by decide +kernel
theorem d_Pa_issue_92 : decode b_Pa_issue 92 = .ok (.aload_n 0, 1) := by decide +kernel
theorem d_Pa_issue_93 : decode b_Pa_issue 93 = .ok (.getfield 32, 3) := by decide +kernel
theorem d_Pa_issue_96 : decode b_Pa_issue 96 = .ok (.getfield 103, 3) := by decide +kernel
theorem d_Pa_issue_99 : decode b_Pa_issue 99 = .ok (.iload_n 1, 1) := by decide +kernel
theorem d_Pa_issue_100 : decode b_Pa_issue 100 = .ok (.iaload, 1) := by decide +kernel
theorem d_Pa_issue_101 : decode b_Pa_issue 101 = .ok (.ireturn, 1) := by decide +kernel
theorem d_Pa_issue_102 : decode b_Pa_issue 102 = .ok (.aload_n 0, 1) := by decide +kernel
theorem d_Pa_issue_103 : decode b_Pa_issue 103 = .ok (.getfield 32, 3) := by decide +kernel
theorem d_Pa_issue_106 : decode b_Pa_issue 106 = .ok (.iload_n 1, 1) := by decide +kernel
theorem d_Pa_issue_107 : decode b_Pa_issue 107 = .ok (.invokevirtual 105, 3) := by decide +kernel
theorem d_Pa_issue_110 : decode b_Pa_issue 110 = .ok (.ifCond .eq 7, 3) := by decide +kernel
theorem d_Pa_issue_113 : decode b_Pa_issue 113 = .ok (.iconst 0, 1) := by decide +kernel
theorem d_Pa_issue_114 : decode b_Pa_issue 114 = .ok (.goto 4, 3) := by decide +kernel
theorem d_Pa_issue_117 : decode b_Pa_issue 117 = .ok (.iconst 1, 1) := by decide +kernel
theorem d_Pa_issue_118 : decode b_Pa_issue 118 = .ok (.ireturn, 1) := by decide +kernel
theorem d_Pa_issue_119 : decode b_Pa_issue 119 = .ok (.iconst (-1), 1) := by decide +kernel
theorem d_Pa_issue_120 : decode b_Pa_issue 120 = .ok (.ireturn, 1) := by decide +kernel
theorem d_Pa_date_0 : decode b_Pa_date 0 = .ok (.aload_n 0, 1) := by decide +kernel
theorem d_Pa_date_1 : decode b_Pa_date 1 = .ok (.getfield 32, 3) := by decide +kernel
theorem d_Pa_date_4 : decode b_Pa_date 4 = .ok (.iload_n 1, 1) := by decide +kernel
theorem d_Pa_date_5 : decode b_Pa_date 5 = .ok (.invokevirtual 87, 3) := by decide +kernel
theorem d_Pa_date_8 : decode b_Pa_date 8 = .ok (.ifCond .eq 16, 3) := by decide +kernel
theorem d_Pa_date_11 : decode b_Pa_date 11 = .ok (.aload_n 0, 1) := by decide +kernel
theorem d_Pa_date_12 : decode b_Pa_date 12 = .ok (.getfield 32, 3) := by decide +kernel
theorem d_Pa_date_15 : decode b_Pa_date 15 = .ok (.getfield 108, 3) := by decide +kernel
theorem d_Pa_date_18 : decode b_Pa_date 18 = .ok (.iload_n 1, 1) := by decide +kernel
theorem d_Pa_date_19 : decode b_Pa_date 19 = .ok (.iaload, 1) := by decide +kernel
theorem d_Pa_date_20 : decode b_Pa_date 20 = .ok (.i2l, 1) := by decide +kernel
theorem d_Pa_date_21 : decode b_Pa_date 21 = .ok (.goto 6, 3) := by decide +kernel
theorem d_Pa_date_24 : decode b_Pa_date 24 = .ok (.ldc2_w 111, 3) := by decide +kernel
theorem d_Pa_date_27 : decode b_Pa_date 27 = .ok (.lreturn, 1) := by decide +kernel
theorem d_Pa_irregular_0 : decode b_Pa_irregular 0 = .ok (.aload_n 0, 1) := by decide +kernel
theorem d_Pa_irregular_1 : decode b_Pa_irregular 1 = .ok (.getfield 32, 3) := by decide +kernel
theorem d_Pa_irregular_4 : decode b_Pa_irregular 4 = .ok (.iload_n 1, 1) := by decide +kernel
theorem d_Pa_irregular_5 : decode b_Pa_irregular 5 = .ok (.invokevirtual 105, 3) := by decide +kernel
theorem d_Pa_irregular_8 : decode b_Pa_irregular 8 = .ok (.ifCond .eq 10, 3) := by decide +kernel
theorem d_Pa_irregular_11 : decode b_Pa_irregular 11 = .ok (.iload_n 2, 1) := by decide +kernel
theorem d_Pa_irregular_12 : decode b_Pa_irregular 12 = .ok (.invokestatic 66, 3) := by decide +kernel
theorem d_Pa_irregular_15 : decode b_Pa_irregular 15 = .ok (.ifCond .ne 5, 3) := by decide +kernel
theorem d_Pa_irregular_18 : decode b_Pa_irregular 18 = .ok (.iconst 0, 1) := by decide +kernel
theorem d_Pa_irregular_19 : decode b_Pa_irregular 19 = .ok (.ireturn, 1) := by decide +kernel
theorem d_Pa_irregular_20 : decode b_Pa_irregular 20 = .ok (.aload_n 0, 1) := by decide +kernel
theorem d_Pa_irregular_21 : decode b_Pa_irregular 21 = .ok (.getfield 32, 3) := by decide +kernel
theorem d_Pa_irregular_24 : decode b_Pa_irregular 24 = .ok (.getfield 108, 3) := by decide +kernel
theorem d_Pa_irregular_27 : decode b_Pa_irregular 27 = .ok (.iload_n 1, 1) := by decide +kernel
theorem d_Pa_irregular_28 : decode b_Pa_irregular 28 = .ok (.iload_n 2, 1) := by decide +kernel
theorem d_Pa_irregular_29 : decode b_Pa_irregular 29 = .ok (.iastore, 1) := by decide +kernel
theorem d_Pa_irregular_30 : decode b_Pa_irregular 30 = .ok (.iconst 1, 1) := by decide +kernel
theorem d_Pa_irregular_31 : decode b_Pa_irregular 31 = .ok (.ireturn, 1) := by decide +kernel
theorem d_Pa_holiday_0 : decode b_Pa_holiday 0 = .ok (.iload_n 1, 1) := by decide +kernel
theorem d_Pa_holiday_1 : decode b_Pa_holiday 1 = .ok (.invokestatic 66, 3) := by decide +kernel
theorem d_Pa_holiday_4 : decode b_Pa_holiday 4 = .ok (.ifCond .eq 24, 3) := by decide +kernel
theorem d_Pa_holiday_7 : decode b_Pa_holiday 7 = .ok (.aload_n 0, 1) := by decide +kernel
theorem d_Pa_holiday_8 : decode b_Pa_holiday 8 = .ok (.getfield 25, 3) := by decide +kernel
theorem d_Pa_holiday_11 : decode b_Pa_holiday 11 = .ok (.iload_n 1, 1) := by decide +kernel
theorem d_Pa_holiday_12 : decode b_Pa_holiday 12 = .ok (.invokevirtual 113, 3) := by decide +kernel
theorem d_Pa_holiday_15 : decode b_Pa_holiday 15 = .ok (.ifCond .eq 13, 3) := by decide +kernel
theorem d_Pa_holiday_18 : decode b_Pa_holiday 18 = .ok (.aload_n 0, 1) := by decide +kernel
theorem d_Pa_holiday_19 : decode b_Pa_holiday 19 = .ok (.getfield 25, 3) := by decide +kernel
theorem d_Pa_holiday_22 : decode b_Pa_holiday 22 = .ok (.getfield 116, 3) := by decide +kernel
theorem d_Pa_holiday_25 : decode b_Pa_holiday 25 = .ok (.goto 4, 3) := by decide +kernel
theorem d_Pa_holiday_28 : decode b_Pa_holiday 28 = .ok (.iconst 0, 1) := by decide +kernel
theorem d_Pa_holiday_29 : decode b_Pa_holiday 29 = .ok (.ireturn, 1) := by decide +kernel
theorem d_Pa_came_0 : decode b_Pa_came 0 = .ok (.aload_n 0, 1) := by decide +kernel
theorem d_Pa_came_1 : decode b_Pa_came 1 = .ok (.getfield 32, 3) := by decide +kernel
theorem d_Pa_came_4 : decode b_Pa_came 4 = .ok (.iload_n 1, 1) := by decide +kernel
theorem d_Pa_came_5 : decode b_Pa_came 5 = .ok (.invokevirtual 105, 3) := by decide +kernel
theorem d_Pa_came_8 : decode b_Pa_came 8 = .ok (.ifCond .eq 10, 3) := by decide +kernel
theorem d_Pa_came_11 : decode b_Pa_came 11 = .ok (.iload_n 2, 1) := by decide +kernel
theorem d_Pa_came_12 : decode b_Pa_came 12 = .ok (.invokestatic 66, 3) := by decide +kernel
theorem d_Pa_came_15 : decode b_Pa_came 15 = .ok (.ifCond .ne 5, 3) := by decide +kernel
theorem d_Pa_came_18 : decode b_Pa_came 18 = .ok (.iconst 0, 1) := by decide +kernel
theorem d_Pa_came_19 : decode b_Pa_came 19 = .ok (.ireturn, 1) := by decide +kernel
theorem d_Pa_came_20 : decode b_Pa_came 20 = .ok (.aload_n 0, 1) := by decide +kernel
theorem d_Pa_came_21 : decode b_Pa_came 21 = .ok (.getfield 32, 3) := by decide +kernel
theorem d_Pa_came_24 : decode b_Pa_came 24 = .ok (.getfield 119, 3) := by decide +kernel
theorem d_Pa_came_27 : decode b_Pa_came 27 = .ok (.iload_n 1, 1) := by decide +kernel
theorem d_Pa_came_28 : decode b_Pa_came 28 = .ok (.iload_n 2, 1) := by decide +kernel
theorem d_Pa_came_29 : decode b_Pa_came 29 = .ok (.iastore, 1) := by decide +kernel
theorem d_Pa_came_30 : decode b_Pa_came 30 = .ok (.iconst 1, 1) := by decide +kernel
theorem d_Pa_came_31 : decode b_Pa_came 31 = .ok (.ireturn, 1) := by decide +kernel
theorem d_Pa_late_0 : decode b_Pa_late 0 = .ok (.aload_n 0, 1) := by decide +kernel
theorem d_Pa_late_1 : decode b_Pa_late 1 = .ok (.getfield 32, 3) := by decide +kernel
theorem d_Pa_late_4 : decode b_Pa_late 4 = .ok (.iload_n 1, 1) := by decide +kernel
theorem d_Pa_late_5 : decode b_Pa_late 5 = .ok (.invokevirtual 87, 3) := by decide +kernel
theorem d_Pa_late_8 : decode b_Pa_late 8 = .ok (.ifCond .eq 10, 3) := by decide +kernel
theorem d_Pa_late_11 : decode b_Pa_late 11 = .ok (.iload_n 2, 1) := by decide +kernel
theorem d_Pa_late_12 : decode b_Pa_late 12 = .ok (.invokestatic 66, 3) := by decide +kernel
theorem d_Pa_late_15 : decode b_Pa_late 15 = .ok (.ifCond .ne 5, 3) := by decide +kernel
theorem d_Pa_late_18 : decode b_Pa_late 18 = .ok (.iconst (-1), 1) := by decide +kernel
theorem d_Pa_late_19 : decode b_Pa_late 19 = .ok (.ireturn, 1) := by decide +kernel
theorem d_Pa_late_20 : decode b_Pa_late 20 = .ok (.aload_n 0, 1) := by decide +kernel
theorem d_Pa_late_21 : decode b_Pa_late 21 = .ok (.getfield 32, 3) := by decide +kernel
theorem d_Pa_late_24 : decode b_Pa_late 24 = .ok (.iload_n 1, 1) := by decide +kernel
theorem d_Pa_late_25 : decode b_Pa_late 25 = .ok (.invokevirtual 105, 3) := by decide +kernel
theorem d_Pa_late_28 : decode b_Pa_late 28 = .ok (.ifCond .eq 7, 3) := by decide +kernel
theorem d_Pa_late_31 : decode b_Pa_late 31 = .ok (.iload_n 2, 1) := by decide +kernel
theorem d_Pa_late_32 : decode b_Pa_late 32 = .ok (.goto 12, 3) := by decide +kernel
theorem d_Pa_late_35 : decode b_Pa_late 35 = .ok (.aload_n 0, 1) := by decide +kernel
theorem d_Pa_late_36 : decode b_Pa_late 36 = .ok (.getfield 32, 3) := by decide +kernel
theorem d_Pa_late_39 : decode b_Pa_late 39 = .ok (.getfield 119, 3) := by decide +kernel
theorem d_Pa_late_42 : decode b_Pa_late 42 = .ok (.iload_n 1, 1) := by decide +kernel
theorem d_Pa_late_43 : decode b_Pa_late 43 = .ok (.iaload, 1) := by decide +kernel
theorem d_Pa_late_44 : decode b_Pa_late 44 = .ok (.istore_n 3, 1) := by decide +kernel
theorem d_Pa_late_45 : decode b_Pa_late 45 = .ok (.iconst 0, 1) := by decide +kernel
theorem d_Pa_late_46 : decode b_Pa_late 46 = .ok (.iload_n 3, 1) := by decide +kernel
theorem d_Pa_late_47 : decode b_Pa_late 47 = .ok (.aload_n 0, 1) := by decide +kernel
theorem d_Pa_late_48 : decode b_Pa_late 48 = .ok (.getfield 32, 3) := by decide +kernel
theorem d_Pa_late_51 : decode b_Pa_late 51 = .ok (.getfield 108, 3) := by decide +kernel
theorem d_Pa_late_54 : decode b_Pa_late 54 = .ok (.iload_n 1, 1) := by decide +kernel
theorem d_Pa_late_55 : decode b_Pa_late 55 = .ok (.iaload, 1) := by decide +kernel
theorem d_Pa_late_56 : decode b_Pa_late 56 = .ok (.isub, 1) := by decide +kernel
theorem d_Pa_late_57 : decode b_Pa_late 57 = .ok (.invokestatic 122, 3) := by decide +kernel
theorem d_Pa_late_60 : decode b_Pa_late 60 = .ok (.ireturn, 1) := by decide +kernel
theorem d_Pa_claim_0 : decode b_Pa_claim 0 = .ok (.iload_n 1, 1) := by decide +kernel
theorem d_Pa_claim_1 : decode b_Pa_claim 1 = .ok (.invokestatic 66, 3) := by decide +kernel
theorem d_Pa_claim_4 : decode b_Pa_claim 4 = .ok (.ifCond .eq 19, 3) := by decide +kernel
theorem d_Pa_claim_7 : decode b_Pa_claim 7 = .ok (.iload_n 2, 1) := by decide +kernel
theorem d_Pa_claim_8 : decode b_Pa_claim 8 = .ok (.ifCond .lt 15, 3) := by decide +kernel
theorem d_Pa_claim_11 : decode b_Pa_claim 11 = .ok (.iload_n 2, 1) := by decide +kernel
theorem d_Pa_claim_12 : decode b_Pa_claim 12 = .ok (.aload_n 0, 1) := by decide +kernel
theorem d_Pa_claim_13 : decode b_Pa_claim 13 = .ok (.getfield 32, 3) := by decide +kernel
theorem d_Pa_claim_16 : decode b_Pa_claim 16 = .ok (.iload_n 1, 1) := by decide +kernel
theorem d_Pa_claim_17 : decode b_Pa_claim 17 = .ok (.invokevirtual 128, 3) := by decide +kernel
theorem d_Pa_claim_20 : decode b_Pa_claim 20 = .ok (.if_icmp .lt 5, 3) := by decide +kernel
theorem d_Pa_claim_23 : decode b_Pa_claim 23 = .ok (.iconst (-1), 1) := by decide +kernel
theorem d_Pa_claim_24 : decode b_Pa_claim 24 = .ok (.ireturn, 1) := by decide +kernel
theorem d_Pa_claim_25 : decode b_Pa_claim 25 = .ok (.iconst (-1), 1) := by decide +kernel
theorem d_Pa_claim_26 : decode b_Pa_claim 26 = .ok (.istore_n 3, 1) := by decide +kernel
theorem d_Pa_claim_27 : decode b_Pa_claim 27 = .ok (.iconst 0, 1) := by decide +kernel
theorem d_Pa_claim_28 : decode b_Pa_claim 28 = .ok (.istore 4, 2) := by decide +kernel
theorem d_Pa_claim_30 : decode b_Pa_claim 30 = .ok (.iload 4, 2) := by decide +kernel
theorem d_Pa_claim_32 : decode b_Pa_claim 32 = .ok (.iload_n 2, 1) := by decide +kernel
theorem d_Pa_claim_33 : decode b_Pa_claim 33 = .ok (.if_icmp .gt 19, 3) := by decide +kernel
theorem d_Pa_claim_36 : decode b_Pa_claim 36 = .ok (.aload_n 0, 1) := by decide +kernel
theorem d_Pa_claim_37 : decode b_Pa_claim 37 = .ok (.getfield 32, 3) := by decide +kernel
theorem d_Pa_claim_40 : decode b_Pa_claim 40 = .ok (.iload_n 1, 1) := by decide +kernel
theorem d_Pa_claim_41 : decode b_Pa_claim 41 = .ok (.iload_n 3, 1) := by decide +kernel
theorem d_Pa_claim_42 : decode b_Pa_claim 42 = .ok (.invokevirtual 131, 3) := by decide +kernel
theorem d_Pa_claim_45 : decode b_Pa_claim 45 = .ok (.istore_n 3, 1) := by decide +kernel
theorem d_Pa_claim_46 : decode b_Pa_claim 46 = .ok (.iinc 4 1, 3) := by decide +kernel
theorem d_Pa_claim_49 : decode b_Pa_claim 49 = .ok (.goto (-19), 3) := by decide +kernel
theorem d_Pa_claim_52 : decode b_Pa_claim 52 = .ok (.iload_n 3, 1) := by decide +kernel
theorem d_Pa_claim_53 : decode b_Pa_claim 53 = .ok (.ireturn, 1) := by decide +kernel
theorem d_Pa_print_0 : decode b_Pa_print 0 = .ok (.aload_n 0, 1) := by decide +kernel
theorem d_Pa_print_1 : decode b_Pa_print 1 = .ok (.iload_n 1, 1) := by decide +kernel
theorem d_Pa_print_2 : decode b_Pa_print 2 = .ok (.invokevirtual 62, 3) := by decide +kernel
theorem d_Pa_print_5 : decode b_Pa_print 5 = .ok (.astore_n 2, 1) := by decide +kernel
theorem d_Pa_print_6 : decode b_Pa_print 6 = .ok (.aload_n 2, 1) := by decide +kernel
theorem d_Pa_print_7 : decode b_Pa_print 7 = .ok (.ifnonnull 5, 3) := by decide +kernel
theorem d_Pa_print_10 : decode b_Pa_print 10 = .ok (.iconst 0, 1) := by decide +kernel
theorem d_Pa_print_11 : decode b_Pa_print 11 = .ok (.ireturn, 1) := by decide +kernel
theorem d_Pa_print_12 : decode b_Pa_print 12 = .ok (.aload_n 0, 1) := by decide +kernel
theorem d_Pa_print_13 : decode b_Pa_print 13 = .ok (.aload_n 2, 1) := by decide +kernel
theorem d_Pa_print_14 : decode b_Pa_print 14 = .ok (.putfield 40, 3) := by decide +kernel
theorem d_Pa_print_17 : decode b_Pa_print 17 = .ok (.aload_n 2, 1) := by decide +kernel
theorem d_Pa_print_18 : decode b_Pa_print 18 = .ok (.getfield 134, 3) := by decide +kernel
theorem d_Pa_print_21 : decode b_Pa_print 21 = .ok (.arraylength, 1) := by decide +kernel
theorem d_Pa_print_22 : decode b_Pa_print 22 = .ok (.ireturn, 1) := by decide +kernel
theorem d_Pa_at_0 : decode b_Pa_at 0 = .ok (.aload_n 0, 1) := by decide +kernel
theorem d_Pa_at_1 : decode b_Pa_at 1 = .ok (.getfield 40, 3) := by decide +kernel
theorem d_Pa_at_4 : decode b_Pa_at 4 = .ok (.ifnull 19, 3) := by decide +kernel
theorem d_Pa_at_7 : decode b_Pa_at 7 = .ok (.iload_n 1, 1) := by decide +kernel
theorem d_Pa_at_8 : decode b_Pa_at 8 = .ok (.ifCond .lt 15, 3) := by decide +kernel
theorem d_Pa_at_11 : decode b_Pa_at 11 = .ok (.iload_n 1, 1) := by decide +kernel
theorem d_Pa_at_12 : decode b_Pa_at 12 = .ok (.aload_n 0, 1) := by decide +kernel
theorem d_Pa_at_13 : decode b_Pa_at 13 = .ok (.getfield 40, 3) := by decide +kernel
theorem d_Pa_at_16 : decode b_Pa_at 16 = .ok (.getfield 134, 3) := by decide +kernel
theorem d_Pa_at_19 : decode b_Pa_at 19 = .ok (.arraylength, 1) := by decide +kernel
theorem d_Pa_at_20 : decode b_Pa_at 20 = .ok (.if_icmp .lt 5, 3) := by decide +kernel
theorem d_Pa_at_23 : decode b_Pa_at 23 = .ok (.iconst (-1), 1) := by decide +kernel
theorem d_Pa_at_24 : decode b_Pa_at 24 = .ok (.ireturn, 1) := by decide +kernel
theorem d_Pa_at_25 : decode b_Pa_at 25 = .ok (.aload_n 0, 1) := by decide +kernel
theorem d_Pa_at_26 : decode b_Pa_at 26 = .ok (.getfield 40, 3) := by decide +kernel
theorem d_Pa_at_29 : decode b_Pa_at 29 = .ok (.getfield 134, 3) := by decide +kernel
theorem d_Pa_at_32 : decode b_Pa_at 32 = .ok (.iload_n 1, 1) := by decide +kernel
theorem d_Pa_at_33 : decode b_Pa_at 33 = .ok (.iaload, 1) := by decide +kernel
theorem d_Pa_at_34 : decode b_Pa_at 34 = .ok (.ireturn, 1) := by decide +kernel
theorem d_Pa_yearly_0 : decode b_Pa_yearly 0 = .ok (.aload_n 0, 1) := by decide +kernel
theorem d_Pa_yearly_1 : decode b_Pa_yearly 1 = .ok (.iload_n 1, 1) := by decide +kernel
theorem d_Pa_yearly_2 : decode b_Pa_yearly 2 = .ok (.invokevirtual 62, 3) := by decide +kernel
theorem d_Pa_yearly_5 : decode b_Pa_yearly 5 = .ok (.astore 4, 2) := by decide +kernel
theorem d_Pa_yearly_7 : decode b_Pa_yearly 7 = .ok (.aload 4, 2) := by decide +kernel
theorem d_Pa_yearly_9 : decode b_Pa_yearly 9 = .ok (.ifnull 10, 3) := by decide +kernel
theorem d_Pa_yearly_12 : decode b_Pa_yearly 12 = .ok (.iload_n 2, 1) := by decide +kernel
theorem d_Pa_yearly_13 : decode b_Pa_yearly 13 = .ok (.invokestatic 66, 3) := by decide +kernel
theorem d_Pa_yearly_16 : decode b_Pa_yearly 16 = .ok (.ifCond .ne 5, 3) := by decide +kernel
theorem d_Pa_yearly_19 : decode b_Pa_yearly 19 = .ok (.iconst (-1), 1) := by decide +kernel
theorem d_Pa_yearly_20 : decode b_Pa_yearly 20 = .ok (.ireturn, 1) := by decide +kernel
theorem d_Pa_yearly_21 : decode b_Pa_yearly 21 = .ok (.iload_n 3, 1) := by decide +kernel
theorem d_Pa_yearly_22 : decode b_Pa_yearly 22 = .ok (.ifCond .ne 13, 3) := by decide +kernel
theorem d_Pa_yearly_25 : decode b_Pa_yearly 25 = .ok (.new 137, 3) := by decide +kernel
theorem d_Pa_yearly_28 : decode b_Pa_yearly 28 = .ok (.dup, 1) := by decide +kernel
theorem d_Pa_yearly_29 : decode b_Pa_yearly 29 = .ok (.ldc 139, 2) := by decide +kernel
theorem d_Pa_yearly_31 : decode b_Pa_yearly 31 = .ok (.invokespecial 141, 3) := by decide +kernel
theorem d_Pa_yearly_34 : decode b_Pa_yearly 34 = .ok (.athrow, 1) := by decide +kernel
theorem d_Pa_yearly_35 : decode b_Pa_yearly 35 = .ok (.aload 4, 2) := by decide +kernel
theorem d_Pa_yearly_37 : decode b_Pa_yearly 37 = .ok (.iload_n 2, 1) := by decide +kernel
theorem d_Pa_yearly_38 : decode b_Pa_yearly 38 = .ok (.invokevirtual 144, 3) := by decide +kernel
theorem d_Pa_yearly_41 : decode b_Pa_yearly 41 = .ok (.iload_n 3, 1) := by decide +kernel
theorem d_Pa_yearly_42 : decode b_Pa_yearly 42 = .ok (.idiv, 1) := by decide +kernel
theorem d_Pa_yearly_43 : decode b_Pa_yearly 43 = .ok (.ireturn, 1) := by decide +kernel
theorem d_Pa_isDay_0 : decode b_Pa_isDay 0 = .ok (.iload_n 0, 1) := by decide +kernel
theorem d_Pa_isDay_1 : decode b_Pa_isDay 1 = .ok (.ifCond .lt 13, 3) := by decide +kernel
theorem d_Pa_isDay_4 : decode b_Pa_isDay 4 = .ok (.iload_n 0, 1) := by decide +kernel
theorem d_Pa_isDay_5 : decode b_Pa_isDay 5 = .ok (.ldc 147, 2) := by decide +kernel
theorem d_Pa_isDay_7 : decode b_Pa_isDay 7 = .ok (.if_icmp .gt 7, 3) := by decide +kernel
theorem d_Pa_isDay_10 : decode b_Pa_isDay 10 = .ok (.iconst 1, 1) := by decide +kernel
theorem d_Pa_isDay_11 : decode b_Pa_isDay 11 = .ok (.goto 4, 3) := by decide +kernel
theorem d_Pa_isDay_14 : decode b_Pa_isDay 14 = .ok (.iconst 0, 1) := by decide +kernel
theorem d_Pa_isDay_15 : decode b_Pa_isDay 15 = .ok (.ireturn, 1) := by decide +kernel
theorem d_Pa_patternOf_0 : decode b_Pa_patternOf 0 = .ok (.iload_n 1, 1) := by decide +kernel
theorem d_Pa_patternOf_1 : decode b_Pa_patternOf 1 = .ok (.ifCond .lt 26, 3) := by decide +kernel
theorem d_Pa_patternOf_4 : decode b_Pa_patternOf 4 = .ok (.iload_n 1, 1) := by decide +kernel
theorem d_Pa_patternOf_5 : decode b_Pa_patternOf 5 = .ok (.aload_n 0, 1) := by decide +kernel
theorem d_Pa_patternOf_6 : decode b_Pa_patternOf 6 = .ok (.getfield 36, 3) := by decide +kernel
theorem d_Pa_patternOf_9 : decode b_Pa_patternOf 9 = .ok (.if_icmp .ge 18, 3) := by decide +kernel
theorem d_Pa_patternOf_12 : decode b_Pa_patternOf 12 = .ok (.iload_n 1, 1) := by decide +kernel
theorem d_Pa_patternOf_13 : decode b_Pa_patternOf 13 = .ok (.bipush 10, 2) := by decide +kernel
theorem d_Pa_patternOf_15 : decode b_Pa_patternOf 15 = .ok (.if_icmp .ge 12, 3) := by decide +kernel
theorem d_Pa_patternOf_18 : decode b_Pa_patternOf 18 = .ok (.aload_n 0, 1) := by decide +kernel
theorem d_Pa_patternOf_19 : decode b_Pa_patternOf 19 = .ok (.getfield 18, 3) := by decide +kernel
theorem d_Pa_patternOf_22 : decode b_Pa_patternOf 22 = .ok (.iload_n 1, 1) := by decide +kernel
theorem d_Pa_patternOf_23 : decode b_Pa_patternOf 23 = .ok (.aaload, 1) := by decide +kernel
theorem d_Pa_patternOf_24 : decode b_Pa_patternOf 24 = .ok (.goto 4, 3) := by decide +kernel
theorem d_Pa_patternOf_27 : decode b_Pa_patternOf 27 = .ok (.aconst_null, 1) := by decide +kernel
theorem d_Pa_patternOf_28 : decode b_Pa_patternOf 28 = .ok (.areturn, 1) := by decide +kernel
theorem d_Pa_keepPattern_0 : decode b_Pa_keepPattern 0 = .ok (.aload_n 0, 1) := by decide +kernel
theorem d_Pa_keepPattern_1 : decode b_Pa_keepPattern 1 = .ok (.getfield 36, 3) := by decide +kernel
theorem d_Pa_keepPattern_4 : decode b_Pa_keepPattern 4 = .ok (.bipush 10, 2) := by decide +kernel
theorem d_Pa_keepPattern_6 : decode b_Pa_keepPattern 6 = .ok (.if_icmp .lt 7, 3) := by decide +kernel
theorem d_Pa_keepPattern_9 : decode b_Pa_keepPattern 9 = .ok (.sipush (-200), 3) := by decide +kernel
theorem d_Pa_keepPattern_12 : decode b_Pa_keepPattern 12 = .ok (.ireturn, 1) := by decide +kernel
theorem d_Pa_keepPattern_13 : decode b_Pa_keepPattern 13 = .ok (.aload_n 0, 1) := by decide +kernel
theorem d_Pa_keepPattern_14 : decode b_Pa_keepPattern 14 = .ok (.getfield 36, 3) := by decide +kernel
theorem d_Pa_keepPattern_17 : decode b_Pa_keepPattern 17 = .ok (.istore_n 1, 1) := by decide +kernel
theorem d_Pa_keepPattern_18 : decode b_Pa_keepPattern 18 = .ok (.aload_n 0, 1) := by decide +kernel
theorem d_Pa_keepPattern_19 : decode b_Pa_keepPattern 19 = .ok (.getfield 18, 3) := by decide +kernel
theorem d_Pa_keepPattern_22 : decode b_Pa_keepPattern 22 = .ok (.iload_n 1, 1) := by decide +kernel
theorem d_Pa_keepPattern_23 : decode b_Pa_keepPattern 23 = .ok (.aload_n 0, 1) := by decide +kernel
theorem d_Pa_keepPattern_24 : decode b_Pa_keepPattern 24 = .ok (.getfield 10, 3) := by decide +kernel
theorem d_Pa_keepPattern_27 : decode b_Pa_keepPattern 27 = .ok (.iload_n 1, 1) := by decide +kernel
theorem d_Pa_keepPattern_28 : decode b_Pa_keepPattern 28 = .ok (.invokevirtual 148, 3) := by decide +kernel
theorem d_Pa_keepPattern_31 : decode b_Pa_keepPattern 31 = .ok (.aastore, 1) := by decide +kernel
theorem d_Pa_keepPattern_32 : decode b_Pa_keepPattern 32 = .ok (.aload_n 0, 1) := by decide +kernel
theorem d_Pa_keepPattern_33 : decode b_Pa_keepPattern 33 = .ok (.dup, 1) := by decide +kernel
theorem d_Pa_keepPattern_34 : decode b_Pa_keepPattern 34 = .ok (.getfield 36, 3) := by decide +kernel
theorem d_Pa_keepPattern_37 : decode b_Pa_keepPattern 37 = .ok (.iconst 1, 1) := by decide +kernel
theorem d_Pa_keepPattern_38 : decode b_Pa_keepPattern 38 = .ok (.iadd, 1) := by decide +kernel
theorem d_Pa_keepPattern_39 : decode b_Pa_keepPattern 39 = .ok (.putfield 36, 3) := by decide +kernel
theorem d_Pa_keepPattern_42 : decode b_Pa_keepPattern 42 = .ok (.iload_n 1, 1) := by decide +kernel
theorem d_Pa_keepPattern_43 : decode b_Pa_keepPattern 43 = .ok (.ireturn, 1) := by decide +kernel
end
section
/-! decode rows of PatternText$Pattern -/
theorem d_Pt_init_0 : decode b_Pt_init 0 = .ok (.aload_n 0, 1) := by decide +kernel
theorem d_Pt_init_1 : decode b_Pt_init 1 = .ok (.invokespecial 3, 3) := by decide +kernel
theorem d_Pt_init_4 : decode b_Pt_init 4 = .ok (.aload_n 0, 1) := by decide +kernel
theorem d_Pt_init_5 : decode b_Pt_init 5 = .ok (.iload_n 1, 1) := by decide +kernel
theorem d_Pt_init_6 : decode b_Pt_init 6 = .ok (.putfield 9, 3) := by decide +kernel
theorem d_Pt_init_9 : decode b_Pt_init 9 = .ok (.aload_n 0, 1) := by decide +kernel
theorem d_Pt_init_10 : decode b_Pt_init 10 = .ok (.aload_n 2, 1) := by decide +kernel
theorem d_Pt_init_11 : decode b_Pt_init 11 = .ok (.putfield 15, 3) := by decide +kernel
theorem d_Pt_init_14 : decode b_Pt_init 14 = .ok (.aload_n 0, 1) := by decide +kernel
theorem d_Pt_init_15 : decode b_Pt_init 15 = .ok (.iload_n 3, 1) := by decide +kernel
theorem d_Pt_init_16 : decode b_Pt_init 16 = .ok (.putfield 19, 3) := by decide +kernel
theorem d_Pt_init_19 : decode b_Pt_init 19 = .ok (.aload_n 0, 1) := by decide +kernel
theorem d_Pt_init_20 : decode b_Pt_init 20 = .ok (.iload 4, 2) := by decide +kernel
theorem d_Pt_init_22 : decode b_Pt_init 22 = .ok (.putfield 22, 3) := by decide +kernel
theorem d_Pt_init_25 : decode b_Pt_init 25 = .ok (.aload_n 0, 1) := by decide +kernel
theorem d_Pt_init_26 : decode b_Pt_init 26 = .ok (.iload 5, 2) := by decide +kernel
theorem d_Pt_init_28 : decode b_Pt_init 28 = .ok (.putfield 25, 3) := by decide +kernel
theorem d_Pt_init_31 : decode b_Pt_init 31 = .ok (.aload_n 0, 1) := by decide +kernel
theorem d_Pt_init_32 : decode b_Pt_init 32 = .ok (.iload 6, 2) := by decide +kernel
theorem d_Pt_init_34 : decode b_Pt_init 34 = .ok (.putfield 28, 3) := by decide +kernel
theorem d_Pt_init_37 : decode b_Pt_init 37 = .ok (.aload_n 0, 1) := by decide +kernel
theorem d_Pt_init_38 : decode b_Pt_init 38 = .ok (.iload 7, 2) := by decide +kernel
theorem d_Pt_init_40 : decode b_Pt_init 40 = .ok (.putfield 31, 3) := by decide +kernel
theorem d_Pt_init_43 : decode b_Pt_init 43 = .ok (.return_, 1) := by decide +kernel
theorem d_Pt_hasIssueOn_0 : decode b_Pt_hasIssueOn 0 = .ok (.iload_n 1, 1) := by decide +kernel
theorem d_Pt_hasIssueOn_1 : decode b_Pt_hasIssueOn 1 = .ok (.bipush 30, 2) := by decide +kernel
theorem d_Pt_hasIssueOn_3 : decode b_Pt_hasIssueOn 3 = .ok (.idiv, 1) := by decide +kernel
theorem d_Pt_hasIssueOn_4 : decode b_Pt_hasIssueOn 4 = .ok (.bipush 12, 2) := by decide +kernel
theorem d_Pt_hasIssueOn_6 : decode b_Pt_hasIssueOn 6 = .ok (.irem, 1) := by decide +kernel
theorem d_Pt_hasIssueOn_7 : decode b_Pt_hasIssueOn 7 = .ok (.istore_n 2, 1) := by decide +kernel
theorem d_Pt_hasIssueOn_8 : decode b_Pt_hasIssueOn 8 = .ok (.aload_n 0, 1) := by decide +kernel
theorem d_Pt_hasIssueOn_9 : decode b_Pt_hasIssueOn 9 = .ok (.getfield 22, 3) := by decide +kernel
theorem d_Pt_hasIssueOn_12 : decode b_Pt_hasIssueOn 12 = .ok (.iconst 1, 1) := by decide +kernel
theorem d_Pt_hasIssueOn_13 : decode b_Pt_hasIssueOn 13 = .ok (.iload_n 2, 1) := by decide +kernel
theorem d_Pt_hasIssueOn_14 : decode b_Pt_hasIssueOn 14 = .ok (.ishl, 1) := by decide +kernel
theorem d_Pt_hasIssueOn_15 : decode b_Pt_hasIssueOn 15 = .ok (.iand, 1) := by decide +kernel
theorem d_Pt_hasIssueOn_16 : decode b_Pt_hasIssueOn 16 = .ok (.ifCond .ne 7, 3) := by decide +kernel
theorem d_Pt_hasIssueOn_19 : decode b_Pt_hasIssueOn 19 = .ok (.iconst 1, 1) := by decide +kernel
theorem d_Pt_hasIssueOn_20 : decode b_Pt_hasIssueOn 20 = .ok (.goto 4, 3) := by decide +kernel
theorem d_Pt_hasIssueOn_23 : decode b_Pt_hasIssueOn 23 = .ok (.iconst 0, 1) := by decide +kernel
theorem d_Pt_hasIssueOn_24 : decode b_Pt_hasIssueOn 24 = .ok (.ireturn, 1) := by decide +kernel
theorem d_Pt_stepWithIssue_0 : decode b_Pt_stepWithIssue 0 = .ok (.iload_n 1, 1) := by decide +kernel
theorem d_Pt_stepWithIssue_1 : decode b_Pt_stepWithIssue 1 = .ok (.istore_n 2, 1) := by decide +kernel
theorem d_Pt_stepWithIssue_2 : decode b_Pt_stepWithIssue 2 = .ok (.iconst 0, 1) := by decide +kernel
theorem d_Pt_stepWithIssue_3 : decode b_Pt_stepWithIssue 3 = .ok (.istore_n 3, 1) := by decide +kernel
theorem d_Pt_stepWithIssue_4 : decode b_Pt_stepWithIssue 4 = .ok (.iload_n 3, 1) := by decide +kernel
theorem d_Pt_stepWithIssue_5 : decode b_Pt_stepWithIssue 5 = .ok (.sipush 1800, 3) := by decide +kernel
theorem d_Pt_stepWithIssue_8 : decode b_Pt_stepWithIssue 8 = .ok (.if_icmp .ge 43, 3) := by decide +kernel
theorem d_Pt_stepWithIssue_11 : decode b_Pt_stepWithIssue 11 = .ok (.iload_n 2, 1) := by decide +kernel
theorem d_Pt_stepWithIssue_12 : decode b_Pt_stepWithIssue 12 = .ok (.iload_n 1, 1) := by decide +kernel
theorem d_Pt_stepWithIssue_13 : decode b_Pt_stepWithIssue 13 = .ok (.isub, 1) := by decide +kernel
theorem d_Pt_stepWithIssue_14 : decode b_Pt_stepWithIssue 14 = .ok (.sipush 1800, 3) := by decide +kernel
theorem d_Pt_stepWithIssue_17 : decode b_Pt_stepWithIssue 17 = .ok (.if_icmp .ge 9, 3) := by decide +kernel
theorem d_Pt_stepWithIssue_20 : decode b_Pt_stepWithIssue 20 = .ok (.iload_n 2, 1) := by decide +kernel
theorem d_Pt_stepWithIssue_21 : decode b_Pt_stepWithIssue 21 = .ok (.ldc 35, 2) := by decide +kernel
theorem d_Pt_stepWithIssue_23 : decode b_Pt_stepWithIssue 23 = .ok (.if_icmp .le 5, 3) := by decide +kernel
theorem d_Pt_stepWithIssue_26 : decode b_Pt_stepWithIssue 26 = .ok (.iconst (-1), 1) := by decide +kernel
theorem d_Pt_stepWithIssue_27 : decode b_Pt_stepWithIssue 27 = .ok (.ireturn, 1) := by decide +kernel
theorem d_Pt_stepWithIssue_28 : decode b_Pt_stepWithIssue 28 = .ok (.aload_n 0, 1) := by decide +kernel
theorem d_Pt_stepWithIssue_29 : decode b_Pt_stepWithIssue 29 = .ok (.iload_n 2, 1) := by decide +kernel
theorem d_Pt_stepWithIssue_30 : decode b_Pt_stepWithIssue 30 = .ok (.invokevirtual 36, 3) := by decide +kernel
theorem d_Pt_stepWithIssue_33 : decode b_Pt_stepWithIssue 33 = .ok (.ifCond .eq 5, 3) := by decide +kernel
theorem d_Pt_stepWithIssue_36 : decode b_Pt_stepWithIssue 36 = .ok (.iload_n 2, 1) := by decide +kernel
theorem d_Pt_stepWithIssue_37 : decode b_Pt_stepWithIssue 37 = .ok (.ireturn, 1) := by decide +kernel
theorem d_Pt_stepWithIssue_38 : decode b_Pt_stepWithIssue 38 = .ok (.iload_n 2, 1) := by decide +kernel
theorem d_Pt_stepWithIssue_39 : decode b_Pt_stepWithIssue 39 = .ok (.aload_n 0, 1) := by decide +kernel
theorem d_Pt_stepWithIssue_40 : decode b_Pt_stepWithIssue 40 = .ok (.getfield 19, 3) := by decide +kernel
theorem d_Pt_stepWithIssue_43 : decode b_Pt_stepWithIssue 43 = .ok (.iadd, 1) := by decide +kernel
theorem d_Pt_stepWithIssue_44 : decode b_Pt_stepWithIssue 44 = .ok (.istore_n 2, 1) := by decide +kernel
theorem d_Pt_stepWithIssue_45 : decode b_Pt_stepWithIssue 45 = .ok (.iinc 3 1, 3) := by decide +kernel
theorem d_Pt_stepWithIssue_48 : decode b_Pt_stepWithIssue 48 = .ok (.goto (-44), 3) := by decide +kernel
theorem d_Pt_stepWithIssue_51 : decode b_Pt_stepWithIssue 51 = .ok (.iconst (-1), 1) := by decide +kernel
theorem d_Pt_stepWithIssue_52 : decode b_Pt_stepWithIssue 52 = .ok (.ireturn, 1) := by decide +kernel
theorem d_Pt_issuesInYearFrom_0 : decode b_Pt_issuesInYearFrom 0 = .ok (.iconst 0, 1) := by decide +kernel
theorem d_Pt_issuesInYearFrom_1 : decode b_Pt_issuesInYearFrom 1 = .ok (.istore_n 2, 1) := by decide +kernel
theorem d_Pt_issuesInYearFrom_2 : decode b_Pt_issuesInYearFrom 2 = .ok (.iload_n 1, 1) := by decide +kernel
theorem d_Pt_issuesInYearFrom_3 : decode b_Pt_issuesInYearFrom 3 = .ok (.istore_n 3, 1) := by decide +kernel
theorem d_Pt_issuesInYearFrom_4 : decode b_Pt_issuesInYearFrom 4 = .ok (.iconst 0, 1) := by decide +kernel
theorem d_Pt_issuesInYearFrom_5 : decode b_Pt_issuesInYearFrom 5 = .ok (.istore 4, 2) := by decide +kernel
theorem d_Pt_issuesInYearFrom_7 : decode b_Pt_issuesInYearFrom 7 = .ok (.iload 4, 2) := by decide +kernel
theorem d_Pt_issuesInYearFrom_9 : decode b_Pt_issuesInYearFrom 9 = .ok (.sipush 360, 3) := by decide +kernel
theorem d_Pt_issuesInYearFrom_12 : decode b_Pt_issuesInYearFrom 12 = .ok (.if_icmp .ge 36, 3) := by decide +kernel
theorem d_Pt_issuesInYearFrom_15 : decode b_Pt_issuesInYearFrom 15 = .ok (.iload_n 3, 1) := by decide +kernel
theorem d_Pt_issuesInYearFrom_16 : decode b_Pt_issuesInYearFrom 16 = .ok (.iload_n 1, 1) := by decide +kernel
theorem d_Pt_issuesInYearFrom_17 : decode b_Pt_issuesInYearFrom 17 = .ok (.isub, 1) := by decide +kernel
theorem d_Pt_issuesInYearFrom_18 : decode b_Pt_issuesInYearFrom 18 = .ok (.sipush 360, 3) := by decide +kernel
theorem d_Pt_issuesInYearFrom_21 : decode b_Pt_issuesInYearFrom 21 = .ok (.if_icmp .ge 27, 3) := by decide +kernel
theorem d_Pt_issuesInYearFrom_24 : decode b_Pt_issuesInYearFrom 24 = .ok (.aload_n 0, 1) := by decide +kernel
theorem d_Pt_issuesInYearFrom_25 : decode b_Pt_issuesInYearFrom 25 = .ok (.iload_n 3, 1) := by decide +kernel
theorem d_Pt_issuesInYearFrom_26 : decode b_Pt_issuesInYearFrom 26 = .ok (.invokevirtual 36, 3) := by decide +kernel
theorem d_Pt_issuesInYearFrom_29 : decode b_Pt_issuesInYearFrom 29 = .ok (.ifCond .eq 6, 3) := by decide +kernel
theorem d_Pt_issuesInYearFrom_32 : decode b_Pt_issuesInYearFrom 32 = .ok (.iinc 2 1, 3) := by decide +kernel
theorem d_Pt_issuesInYearFrom_35 : decode b_Pt_issuesInYearFrom 35 = .ok (.iload_n 3, 1) := by decide +kernel
theorem d_Pt_issuesInYearFrom_36 : decode b_Pt_issuesInYearFrom 36 = .ok (.aload_n 0, 1) := by decide +kernel
theorem d_Pt_issuesInYearFrom_37 : decode b_Pt_issuesInYearFrom 37 = .ok (.getfield 19, 3) := by decide +kernel
theorem d_Pt_issuesInYearFrom_40 : decode b_Pt_issuesInYearFrom 40 = .ok (.iadd, 1) := by decide +kernel
theorem d_Pt_issuesInYearFrom_41 : decode b_Pt_issuesInYearFrom 41 = .ok (.istore_n 3, 1) := by decide +kernel
theorem d_Pt_issuesInYearFrom_42 : decode b_Pt_issuesInYearFrom 42 = .ok (.iinc 4 1, 3) := by decide +kernel
theorem d_Pt_issuesInYearFrom_45 : decode b_Pt_issuesInYearFrom 45 = .ok (.goto (-38), 3) := by decide +kernel
theorem d_Pt_issuesInYearFrom_48 : decode b_Pt_issuesInYearFrom 48 = .ok (.iload_n 2, 1) := by decide +kernel
theorem d_Pt_issuesInYearFrom_49 : decode b_Pt_issuesInYearFrom 49 = .ok (.ireturn, 1) := by decide +kernel
theorem d_Pt_numbersOfIssue_0 : decode b_Pt_numbersOfIssue 0 = .ok (.aload_n 0, 1) := by decide +kernel
theorem d_Pt_numbersOfIssue_1 : decode b_Pt_numbersOfIssue 1 = .ok (.getfield 25, 3) := by decide +kernel
theorem d_Pt_numbersOfIssue_4 : decode b_Pt_numbersOfIssue 4 = .ok (.ifCond .le 16, 3) := by decide +kernel
theorem d_Pt_numbersOfIssue_7 : decode b_Pt_numbersOfIssue 7 = .ok (.iload_n 1, 1) := by decide +kernel
theorem d_Pt_numbersOfIssue_8 : decode b_Pt_numbersOfIssue 8 = .ok (.aload_n 0, 1) := by decide +kernel
theorem d_Pt_numbersOfIssue_9 : decode b_Pt_numbersOfIssue 9 = .ok (.getfield 25, 3) := by decide +kernel
theorem d_Pt_numbersOfIssue_12 : decode b_Pt_numbersOfIssue 12 = .ok (.irem, 1) := by decide +kernel
theorem d_Pt_numbersOfIssue_13 : decode b_Pt_numbersOfIssue 13 = .ok (.ifCond .ne 7, 3) := by decide +kernel
theorem d_Pt_numbersOfIssue_16 : decode b_Pt_numbersOfIssue 16 = .ok (.iconst 2, 1) := by decide +kernel
theorem d_Pt_numbersOfIssue_17 : decode b_Pt_numbersOfIssue 17 = .ok (.goto 4, 3) := by decide +kernel
theorem d_Pt_numbersOfIssue_20 : decode b_Pt_numbersOfIssue 20 = .ok (.iconst 1, 1) := by decide +kernel
theorem d_Pt_numbersOfIssue_21 : decode b_Pt_numbersOfIssue 21 = .ok (.ireturn, 1) := by decide +kernel
theorem d_Pt_volumeOf_0 : decode b_Pt_volumeOf 0 = .ok (.aload_n 0, 1) := by decide +kernel
theorem d_Pt_volumeOf_1 : decode b_Pt_volumeOf 1 = .ok (.getfield 28, 3) := by decide +kernel
theorem d_Pt_volumeOf_4 : decode b_Pt_volumeOf 4 = .ok (.ifCond .le 16, 3) := by decide +kernel
theorem d_Pt_volumeOf_7 : decode b_Pt_volumeOf 7 = .ok (.iload_n 1, 1) := by decide +kernel
theorem d_Pt_volumeOf_8 : decode b_Pt_volumeOf 8 = .ok (.iconst 1, 1) := by decide +kernel
theorem d_Pt_volumeOf_9 : decode b_Pt_volumeOf 9 = .ok (.isub, 1) := by decide +kernel
theorem d_Pt_volumeOf_10 : decode b_Pt_volumeOf 10 = .ok (.aload_n 0, 1) := by decide +kernel
theorem d_Pt_volumeOf_11 : decode b_Pt_volumeOf 11 = .ok (.getfield 28, 3) := by decide +kernel
theorem d_Pt_volumeOf_14 : decode b_Pt_volumeOf 14 = .ok (.idiv, 1) := by decide +kernel
theorem d_Pt_volumeOf_15 : decode b_Pt_volumeOf 15 = .ok (.iconst 1, 1) := by decide +kernel
theorem d_Pt_volumeOf_16 : decode b_Pt_volumeOf 16 = .ok (.iadd, 1) := by decide +kernel
theorem d_Pt_volumeOf_17 : decode b_Pt_volumeOf 17 = .ok (.goto 4, 3) := by decide +kernel
theorem d_Pt_volumeOf_20 : decode b_Pt_volumeOf 20 = .ok (.iconst 0, 1) := by decide +kernel
theorem d_Pt_volumeOf_21 : decode b_Pt_volumeOf 21 = .ok (.ireturn, 1) := by decide +kernel
theorem d_Pt_asTold_0 : decode b_Pt_asTold 0 = .ok (.aload_n 0, 1) := by decide +kernel
theorem d_Pt_asTold_1 : decode b_Pt_asTold 1 = .ok (.getfield 31, 3) := by decide +kernel
theorem d_Pt_asTold_4 : decode b_Pt_asTold 4 = .ok (.ifCond .eq 23, 3) := by decide +kernel
theorem d_Pt_asTold_7 : decode b_Pt_asTold 7 = .ok (.aload_n 0, 1) := by decide +kernel
theorem d_Pt_asTold_8 : decode b_Pt_asTold 8 = .ok (.getfield 28, 3) := by decide +kernel
theorem d_Pt_asTold_11 : decode b_Pt_asTold 11 = .ok (.ifCond .le 16, 3) := by decide +kernel
theorem d_Pt_asTold_14 : decode b_Pt_asTold 14 = .ok (.iload_n 1, 1) := by decide +kernel
theorem d_Pt_asTold_15 : decode b_Pt_asTold 15 = .ok (.iconst 1, 1) := by decide +kernel
theorem d_Pt_asTold_16 : decode b_Pt_asTold 16 = .ok (.isub, 1) := by decide +kernel
theorem d_Pt_asTold_17 : decode b_Pt_asTold 17 = .ok (.aload_n 0, 1) := by decide +kernel
theorem d_Pt_asTold_18 : decode b_Pt_asTold 18 = .ok (.getfield 28, 3) := by decide +kernel
theorem d_Pt_asTold_21 : decode b_Pt_asTold 21 = .ok (.irem, 1) := by decide +kernel
theorem d_Pt_asTold_22 : decode b_Pt_asTold 22 = .ok (.iconst 1, 1) := by decide +kernel
theorem d_Pt_asTold_23 : decode b_Pt_asTold 23 = .ok (.iadd, 1) := by decide +kernel
theorem d_Pt_asTold_24 : decode b_Pt_asTold 24 = .ok (.goto 4, 3) := by decide +kernel
theorem d_Pt_asTold_27 : decode b_Pt_asTold 27 = .ok (.iload_n 1, 1) := by decide +kernel
theorem d_Pt_asTold_28 : decode b_Pt_asTold 28 = .ok (.ireturn, 1) := by decide +kernel
end
section
/-! decode rows of PatternText$PatternReader -/
theorem d_Rd_init_0 : decode b_Rd_init 0 = .ok (.aload_n 0, 1) := by decide +kernel
theorem d_Rd_init_1 : decode b_Rd_init 1 = .ok (.invokespecial 3, 3) := by decide +kernel
theorem d_Rd_init_4 : decode b_Rd_init 4 = .ok (.aload_n 0, 1) := by decide +kernel
theorem d_Rd_init_5 : decode b_Rd_init 5 = .ok (.bipush 120, 2) := by decide +kernel
theorem d_Rd_init_7 : decode b_Rd_init 7 = .ok (.newarray .int, 2) := by decide +kernel
theorem d_Rd_init_9 : decode b_Rd_init 9 = .ok (.putfield 9, 3) := by decide +kernel
theorem d_Rd_init_12 : decode b_Rd_init 12 = .ok (.aload_n 0, 1) := by decide +kernel
theorem d_Rd_init_13 : decode b_Rd_init 13 = .ok (.iconst 0, 1) := by decide +kernel
theorem d_Rd_init_14 : decode b_Rd_init 14 = .ok (.putfield 15, 3) := by decide +kernel
theorem d_Rd_init_17 : decode b_Rd_init 17 = .ok (.aload_n 0, 1) := by decide +kernel
theorem d_Rd_init_18 : decode b_Rd_init 18 = .ok (.iconst 0, 1) := by decide +kernel
theorem d_Rd_init_19 : decode b_Rd_init 19 = .ok (.putfield 19, 3) := by decide +kernel
theorem d_Rd_init_22 : decode b_Rd_init 22 = .ok (.aload_n 0, 1) := by decide +kernel
theorem d_Rd_init_23 : decode b_Rd_init 23 = .ok (.iconst 0, 1) := by decide +kernel
theorem d_Rd_init_24 : decode b_Rd_init 24 = .ok (.putfield 22, 3) := by decide +kernel
theorem d_Rd_init_27 : decode b_Rd_init 27 = .ok (.aload_n 0, 1) := by decide +kernel
theorem d_Rd_init_28 : decode b_Rd_init 28 = .ok (.iconst 0, 1) := by decide +kernel
theorem d_Rd_init_29 : decode b_Rd_init 29 = .ok (.putfield 25, 3) := by decide +kernel
theorem d_Rd_init_32 : decode b_Rd_init 32 = .ok (.aload_n 0, 1) := by decide +kernel
theorem d_Rd_init_33 : decode b_Rd_init 33 = .ok (.iconst 0, 1) := by decide +kernel
theorem d_Rd_init_34 : decode b_Rd_init 34 = .ok (.putfield 28, 3) := by decide +kernel
theorem d_Rd_init_37 : decode b_Rd_init 37 = .ok (.aload_n 0, 1) := by decide +kernel
theorem d_Rd_init_38 : decode b_Rd_init 38 = .ok (.iconst 0, 1) := by decide +kernel
theorem d_Rd_init_39 : decode b_Rd_init 39 = .ok (.putfield 31, 3) := by decide +kernel
theorem d_Rd_init_42 : decode b_Rd_init 42 = .ok (.aload_n 0, 1) := by decide +kernel
theorem d_Rd_init_43 : decode b_Rd_init 43 = .ok (.iconst 0, 1) := by decide +kernel
theorem d_Rd_init_44 : decode b_Rd_init 44 = .ok (.putfield 34, 3) := by decide +kernel
theorem d_Rd_init_47 : decode b_Rd_init 47 = .ok (.aload_n 0, 1) := by decide +kernel
theorem d_Rd_init_48 : decode b_Rd_init 48 = .ok (.iconst 0, 1) := by decide +kernel
theorem d_Rd_init_49 : decode b_Rd_init 49 = .ok (.putfield 37, 3) := by decide +kernel
theorem d_Rd_init_52 : decode b_Rd_init 52 = .ok (.return_, 1) := by decide +kernel
theorem d_Rd_collect_0 : decode b_Rd_collect 0 = .ok (.aload_n 0, 1) := by decide +kernel
theorem d_Rd_collect_1 : decode b_Rd_collect 1 = .ok (.getfield 15, 3) := by decide +kernel
theorem d_Rd_collect_4 : decode b_Rd_collect 4 = .ok (.bipush 120, 2) := by decide +kernel
theorem d_Rd_collect_6 : decode b_Rd_collect 6 = .ok (.if_icmp .ge 23, 3) := by decide +kernel
theorem d_Rd_collect_9 : decode b_Rd_collect 9 = .ok (.aload_n 0, 1) := by decide +kernel
theorem d_Rd_collect_10 : decode b_Rd_collect 10 = .ok (.getfield 9, 3) := by decide +kernel
theorem d_Rd_collect_13 : decode b_Rd_collect 13 = .ok (.aload_n 0, 1) := by decide +kernel
theorem d_Rd_collect_14 : decode b_Rd_collect 14 = .ok (.getfield 15, 3) := by decide +kernel
theorem d_Rd_collect_17 : decode b_Rd_collect 17 = .ok (.iload_n 1, 1) := by decide +kernel
theorem d_Rd_collect_18 : decode b_Rd_collect 18 = .ok (.iastore, 1) := by decide +kernel
theorem d_Rd_collect_19 : decode b_Rd_collect 19 = .ok (.aload_n 0, 1) := by decide +kernel
theorem d_Rd_collect_20 : decode b_Rd_collect 20 = .ok (.dup, 1) := by decide +kernel
theorem d_Rd_collect_21 : decode b_Rd_collect 21 = .ok (.getfield 15, 3) := by decide +kernel
theorem d_Rd_collect_24 : decode b_Rd_collect 24 = .ok (.iconst 1, 1) := by decide +kernel
theorem d_Rd_collect_25 : decode b_Rd_collect 25 = .ok (.iadd, 1) := by decide +kernel
theorem d_Rd_collect_26 : decode b_Rd_collect 26 = .ok (.putfield 15, 3) := by decide +kernel
theorem d_Rd_collect_29 : decode b_Rd_collect 29 = .ok (.return_, 1) := by decide +kernel
theorem d_Rd_forget_0 : decode b_Rd_forget 0 = .ok (.aload_n 0, 1) := by decide +kernel
theorem d_Rd_forget_1 : decode b_Rd_forget 1 = .ok (.iconst 0, 1) := by decide +kernel
theorem d_Rd_forget_2 : decode b_Rd_forget 2 = .ok (.putfield 15, 3) := by decide +kernel
theorem d_Rd_forget_5 : decode b_Rd_forget 5 = .ok (.return_, 1) := by decide +kernel
theorem d_Rd_makePattern_0 : decode b_Rd_makePattern 0 = .ok (.aload_n 0, 1) := by decide +kernel
theorem d_Rd_makePattern_1 : decode b_Rd_makePattern 1 = .ok (.getfield 15, 3) := by decide +kernel
theorem d_Rd_makePattern_4 : decode b_Rd_makePattern 4 = .ok (.newarray .int, 2) := by decide +kernel
theorem d_Rd_makePattern_6 : decode b_Rd_makePattern 6 = .ok (.astore_n 2, 1) := by decide +kernel
theorem d_Rd_makePattern_7 : decode b_Rd_makePattern 7 = .ok (.aload_n 0, 1) := by decide +kernel
theorem d_Rd_makePattern_8 : decode b_Rd_makePattern 8 = .ok (.getfield 9, 3) := by decide +kernel
theorem d_Rd_makePattern_11 : decode b_Rd_makePattern 11 = .ok (.iconst 0, 1) := by decide +kernel
theorem d_Rd_makePattern_12 : decode b_Rd_makePattern 12 = .ok (.aload_n 2, 1) := by decide +kernel
theorem d_Rd_makePattern_13 : decode b_Rd_makePattern 13 = .ok (.iconst 0, 1) := by decide +kernel
theorem d_Rd_makePattern_14 : decode b_Rd_makePattern 14 = .ok (.aload_n 0, 1) := by decide +kernel
theorem d_Rd_makePattern_15 : decode b_Rd_makePattern 15 = .ok (.getfield 15, 3) := by decide +kernel
theorem d_Rd_makePattern_18 : decode b_Rd_makePattern 18 = .ok (.invokestatic 41, 3) := by decide +kernel
theorem d_Rd_makePattern_21 : decode b_Rd_makePattern 21 = .ok (.new 47, 3) := by decide +kernel
theorem d_Rd_makePattern_24 : decode b_Rd_makePattern 24 = .ok (.dup, 1) := by decide +kernel
theorem d_Rd_makePattern_25 : decode b_Rd_makePattern 25 = .ok (.iload_n 1, 1) := by decide +kernel
theorem d_Rd_makePattern_26 : decode b_Rd_makePattern 26 = .ok (.aload_n 2, 1) := by decide +kernel
theorem d_Rd_makePattern_27 : decode b_Rd_makePattern 27 = .ok (.aload_n 0, 1) := by decide +kernel
theorem d_Rd_makePattern_28 : decode b_Rd_makePattern 28 = .ok (.getfield 25, 3) := by decide +kernel
theorem d_Rd_makePattern_31 : decode b_Rd_makePattern 31 = .ok (.aload_n 0, 1) := by decide +kernel
theorem d_Rd_makePattern_32 : decode b_Rd_makePattern 32 = .ok (.getfield 28, 3) := by decide +kernel
theorem d_Rd_makePattern_35 : decode b_Rd_makePattern 35 = .ok (.aload_n 0, 1) := by decide +kernel
theorem d_Rd_makePattern_36 : decode b_Rd_makePattern 36 = .ok (.getfield 31, 3) := by decide +kernel
theorem d_Rd_makePattern_39 : decode b_Rd_makePattern 39 = .ok (.aload_n 0, 1) := by decide +kernel
theorem d_Rd_makePattern_40 : decode b_Rd_makePattern 40 = .ok (.getfield 34, 3) := by decide +kernel
theorem d_Rd_makePattern_43 : decode b_Rd_makePattern 43 = .ok (.aload_n 0, 1) := by decide +kernel
theorem d_Rd_makePattern_44 : decode b_Rd_makePattern 44 = .ok (.getfield 37, 3) := by decide +kernel
theorem d_Rd_makePattern_47 : decode b_Rd_makePattern 47 = .ok (.invokespecial 49, 3) := by decide +kernel
theorem d_Rd_makePattern_50 : decode b_Rd_makePattern 50 = .ok (.areturn, 1) := by decide +kernel
theorem d_Rd_understand_0 : decode b_Rd_understand 0 = .ok (.aload_n 0, 1) := by decide +kernel
theorem d_Rd_understand_1 : decode b_Rd_understand 1 = .ok (.iconst 0, 1) := by decide +kernel
theorem d_Rd_understand_2 : decode b_Rd_understand 2 = .ok (.putfield 19, 3) := by decide +kernel
theorem d_Rd_understand_5 : decode b_Rd_understand 5 = .ok (.aload_n 0, 1) := by decide +kernel
theorem d_Rd_understand_6 : decode b_Rd_understand 6 = .ok (.iconst 0, 1) := by decide +kernel
theorem d_Rd_understand_7 : decode b_Rd_understand 7 = .ok (.putfield 28, 3) := by decide +kernel
theorem d_Rd_understand_10 : decode b_Rd_understand 10 = .ok (.aload_n 0, 1) := by decide +kernel
theorem d_Rd_understand_11 : decode b_Rd_understand 11 = .ok (.iconst 0, 1) := by decide +kernel
theorem d_Rd_understand_12 : decode b_Rd_understand 12 = .ok (.putfield 31, 3) := by decide +kernel
theorem d_Rd_understand_15 : decode b_Rd_understand 15 = .ok (.aload_n 0, 1) := by decide +kernel
theorem d_Rd_understand_16 : decode b_Rd_understand 16 = .ok (.iconst 0, 1) := by decide +kernel
theorem d_Rd_understand_17 : decode b_Rd_understand 17 = .ok (.putfield 34, 3) := by decide +kernel
theorem d_Rd_understand_20 : decode b_Rd_understand 20 = .ok (.aload_n 0, 1) := by decide +kernel
theorem d_Rd_understand_21 : decode b_Rd_understand 21 = .ok (.iconst 0, 1) := by decide +kernel
theorem d_Rd_understand_22 : decode b_Rd_understand 22 = .ok (.putfield 37, 3) := by decide +kernel
theorem d_Rd_understand_25 : decode b_Rd_understand 25 = .ok (.aload_n 0, 1) := by decide +kernel
theorem d_Rd_understand_26 : decode b_Rd_understand 26 = .ok (.invokevirtual 52, 3) := by decide +kernel
theorem d_Rd_understand_29 : decode b_Rd_understand 29 = .ok (.ifCond .eq 21, 3) := by decide +kernel
theorem d_Rd_understand_32 : decode b_Rd_understand 32 = .ok (.aload_n 0, 1) := by decide +kernel
theorem d_Rd_understand_33 : decode b_Rd_understand 33 = .ok (.invokevirtual 56, 3) := by decide +kernel
theorem d_Rd_understand_36 : decode b_Rd_understand 36 = .ok (.ifCond .eq 14, 3) := by decide +kernel
theorem d_Rd_understand_39 : decode b_Rd_understand 39 = .ok (.aload_n 0, 1) := by decide +kernel
theorem d_Rd_understand_40 : decode b_Rd_understand 40 = .ok (.invokevirtual 59, 3) := by decide +kernel
theorem d_Rd_understand_43 : decode b_Rd_understand 43 = .ok (.ifCond .eq 7, 3) := by decide +kernel
theorem d_Rd_understand_46 : decode b_Rd_understand 46 = .ok (.iconst 1, 1) := by decide +kernel
theorem d_Rd_understand_47 : decode b_Rd_understand 47 = .ok (.goto 4, 3) := by decide +kernel
theorem d_Rd_understand_50 : decode b_Rd_understand 50 = .ok (.iconst 0, 1) := by decide +kernel
theorem d_Rd_understand_51 : decode b_Rd_understand 51 = .ok (.ireturn, 1) := by decide +kernel
theorem d_Rd_takeHowOften_0 : decode b_Rd_takeHowOften 0 = .ok (.aload_n 0, 1) := by decide +kernel
theorem d_Rd_takeHowOften_1 : decode b_Rd_takeHowOften 1 = .ok (.ldc 62, 2) := by decide +kernel
theorem d_Rd_takeHowOften_3 : decode b_Rd_takeHowOften 3 = .ok (.invokevirtual 64, 3) := by decide +kernel
theorem d_Rd_takeHowOften_6 : decode b_Rd_takeHowOften 6 = .ok (.ifCond .eq 27, 3) := by decide +kernel
theorem d_Rd_takeHowOften_9 : decode b_Rd_takeHowOften 9 = .ok (.aload_n 0, 1) := by decide +kernel
theorem d_Rd_takeHowOften_10 : decode b_Rd_takeHowOften 10 = .ok (.invokevirtual 68, 3) := by decide +kernel
theorem d_Rd_takeHowOften_13 : decode b_Rd_takeHowOften 13 = .ok (.ifCond .eq 20, 3) := by decide +kernel
theorem d_Rd_takeHowOften_16 : decode b_Rd_takeHowOften 16 = .ok (.aload_n 0, 1) := by decide +kernel
theorem d_Rd_takeHowOften_17 : decode b_Rd_takeHowOften 17 = .ok (.iconst 1, 1) := by decide +kernel
theorem d_Rd_takeHowOften_18 : decode b_Rd_takeHowOften 18 = .ok (.bipush 99, 2) := by decide +kernel
theorem d_Rd_takeHowOften_20 : decode b_Rd_takeHowOften 20 = .ok (.invokevirtual 71, 3) := by decide +kernel
theorem d_Rd_takeHowOften_23 : decode b_Rd_takeHowOften 23 = .ok (.ifCond .eq 10, 3) := by decide +kernel
theorem d_Rd_takeHowOften_26 : decode b_Rd_takeHowOften 26 = .ok (.aload_n 0, 1) := by decide +kernel
theorem d_Rd_takeHowOften_27 : decode b_Rd_takeHowOften 27 = .ok (.invokevirtual 68, 3) := by decide +kernel
theorem d_Rd_takeHowOften_30 : decode b_Rd_takeHowOften 30 = .ok (.ifCond .ne 5, 3) := by decide +kernel
theorem d_Rd_takeHowOften_33 : decode b_Rd_takeHowOften 33 = .ok (.iconst 0, 1) := by decide +kernel
theorem d_Rd_takeHowOften_34 : decode b_Rd_takeHowOften 34 = .ok (.ireturn, 1) := by decide +kernel
theorem d_Rd_takeHowOften_35 : decode b_Rd_takeHowOften 35 = .ok (.aload_n 0, 1) := by decide +kernel
theorem d_Rd_takeHowOften_36 : decode b_Rd_takeHowOften 36 = .ok (.ldc 75, 2) := by decide +kernel
theorem d_Rd_takeHowOften_38 : decode b_Rd_takeHowOften 38 = .ok (.invokevirtual 64, 3) := by decide +kernel
theorem d_Rd_takeHowOften_41 : decode b_Rd_takeHowOften 41 = .ok (.ifCond .eq 14, 3) := by decide +kernel
theorem d_Rd_takeHowOften_44 : decode b_Rd_takeHowOften 44 = .ok (.aload_n 0, 1) := by decide +kernel
theorem d_Rd_takeHowOften_45 : decode b_Rd_takeHowOften 45 = .ok (.aload_n 0, 1) := by decide +kernel
theorem d_Rd_takeHowOften_46 : decode b_Rd_takeHowOften 46 = .ok (.getfield 22, 3) := by decide +kernel
theorem d_Rd_takeHowOften_49 : decode b_Rd_takeHowOften 49 = .ok (.putfield 25, 3) := by decide +kernel
theorem d_Rd_takeHowOften_52 : decode b_Rd_takeHowOften 52 = .ok (.goto 51, 3) := by decide +kernel
theorem d_Rd_takeHowOften_55 : decode b_Rd_takeHowOften 55 = .ok (.aload_n 0, 1) := by decide +kernel
theorem d_Rd_takeHowOften_56 : decode b_Rd_takeHowOften 56 = .ok (.ldc 77, 2) := by decide +kernel
theorem d_Rd_takeHowOften_58 : decode b_Rd_takeHowOften 58 = .ok (.invokevirtual 64, 3) := by decide +kernel
theorem d_Rd_takeHowOften_61 : decode b_Rd_takeHowOften 61 = .ok (.ifCond .eq 17, 3) := by decide +kernel
theorem d_Rd_takeHowOften_64 : decode b_Rd_takeHowOften 64 = .ok (.aload_n 0, 1) := by decide +kernel
theorem d_Rd_takeHowOften_65 : decode b_Rd_takeHowOften 65 = .ok (.aload_n 0, 1) := by decide +kernel
theorem d_Rd_takeHowOften_66 : decode b_Rd_takeHowOften 66 = .ok (.getfield 22, 3) := by decide +kernel
theorem d_Rd_takeHowOften_69 : decode b_Rd_takeHowOften 69 = .ok (.bipush 7, 2) := by decide +kernel
theorem d_Rd_takeHowOften_71 : decode b_Rd_takeHowOften 71 = .ok (.imul, 1) := by decide +kernel
theorem d_Rd_takeHowOften_72 : decode b_Rd_takeHowOften 72 = .ok (.putfield 25, 3) := by decide +kernel
theorem d_Rd_takeHowOften_75 : decode b_Rd_takeHowOften 75 = .ok (.goto 28, 3) := by decide +kernel
theorem d_Rd_takeHowOften_78 : decode b_Rd_takeHowOften 78 = .ok (.aload_n 0, 1) := by decide +kernel
theorem d_Rd_takeHowOften_79 : decode b_Rd_takeHowOften 79 = .ok (.ldc 79, 2) := by decide +kernel
theorem d_Rd_takeHowOften_81 : decode b_Rd_takeHowOften 81 = .ok (.invokevirtual 64, 3) := by decide +kernel
theorem d_Rd_takeHowOften_84 : decode b_Rd_takeHowOften 84 = .ok (.ifCond .eq 17, 3) := by decide +kernel
theorem d_Rd_takeHowOften_87 : decode b_Rd_takeHowOften 87 = .ok (.aload_n 0, 1) := by decide +kernel
theorem d_Rd_takeHowOften_88 : decode b_Rd_takeHowOften 88 = .ok (.aload_n 0, 1) := by decide +kernel
theorem d_Rd_takeHowOften_89 : decode b_Rd_takeHowOften 89 = .ok (.getfield 22, 3) := by decide +kernel
theorem d_Rd_takeHowOften_92 : decode b_Rd_takeHowOften 92 = .ok (.bipush 30, 2) := by decide +kernel
theorem d_Rd_takeHowOften_94 : decode b_Rd_takeHowOften 94 = .ok (.imul, 1) := by decide +kernel
theorem d_Rd_takeHowOften_95 : decode b_Rd_takeHowOften 95 = .ok (.putfield 25, 3) := by decide +kernel
theorem d_Rd_takeHowOften_98 : decode b_Rd_takeHowOften 98 = .ok (.goto 5, 3) := by decide +kernel
theorem d_Rd_takeHowOften_101 : decode b_Rd_takeHowOften 101 = .ok (.iconst 0, 1) := by decide +kernel
theorem d_Rd_takeHowOften_102 : decode b_Rd_takeHowOften 102 = .ok (.ireturn, 1) := by decide +kernel
theorem d_Rd_takeHowOften_103 : decode b_Rd_takeHowOften 103 = .ok (.iconst 1, 1) := by decide +kernel
theorem d_Rd_takeHowOften_104 : decode b_Rd_takeHowOften 104 = .ok (.ireturn, 1) := by decide +kernel
theorem d_Rd_takeClauses_0 : decode b_Rd_takeClauses 0 = .ok (.aload_n 0, 1) := by decide +kernel
theorem d_Rd_takeClauses_1 : decode b_Rd_takeClauses 1 = .ok (.ldc 81, 2) := by decide +kernel
theorem d_Rd_takeClauses_3 : decode b_Rd_takeClauses 3 = .ok (.invokevirtual 83, 3) := by decide +kernel
theorem d_Rd_takeClauses_6 : decode b_Rd_takeClauses 6 = .ok (.ifCond .eq 19, 3) := by decide +kernel
theorem d_Rd_takeClauses_9 : decode b_Rd_takeClauses 9 = .ok (.aload_n 0, 1) := by decide +kernel
theorem d_Rd_takeClauses_10 : decode b_Rd_takeClauses 10 = .ok (.invokevirtual 68, 3) := by decide +kernel
theorem d_Rd_takeClauses_13 : decode b_Rd_takeClauses 13 = .ok (.ifCond .eq 10, 3) := by decide +kernel
theorem d_Rd_takeClauses_16 : decode b_Rd_takeClauses 16 = .ok (.aload_n 0, 1) := by decide +kernel
theorem d_Rd_takeClauses_17 : decode b_Rd_takeClauses 17 = .ok (.invokevirtual 86, 3) := by decide +kernel
theorem d_Rd_takeClauses_20 : decode b_Rd_takeClauses 20 = .ok (.ifCond .ne 5, 3) := by decide +kernel
theorem d_Rd_takeClauses_23 : decode b_Rd_takeClauses 23 = .ok (.iconst 0, 1) := by decide +kernel
theorem d_Rd_takeClauses_24 : decode b_Rd_takeClauses 24 = .ok (.ireturn, 1) := by decide +kernel
theorem d_Rd_takeClauses_25 : decode b_Rd_takeClauses 25 = .ok (.aload_n 0, 1) := by decide +kernel
theorem d_Rd_takeClauses_26 : decode b_Rd_takeClauses 26 = .ok (.ldc 89, 2) := by decide +kernel
theorem d_Rd_takeClauses_28 : decode b_Rd_takeClauses 28 = .ok (.invokevirtual 83, 3) := by decide +kernel
theorem d_Rd_takeClauses_31 : decode b_Rd_takeClauses 31 = .ok (.ifCond .eq 30, 3) := by decide +kernel
theorem d_Rd_takeClauses_34 : decode b_Rd_takeClauses 34 = .ok (.aload_n 0, 1) := by decide +kernel
theorem d_Rd_takeClauses_35 : decode b_Rd_takeClauses 35 = .ok (.invokevirtual 68, 3) := by decide +kernel
theorem d_Rd_takeClauses_38 : decode b_Rd_takeClauses 38 = .ok (.ifCond .eq 13, 3) := by decide +kernel
theorem d_Rd_takeClauses_41 : decode b_Rd_takeClauses 41 = .ok (.aload_n 0, 1) := by decide +kernel
theorem d_Rd_takeClauses_42 : decode b_Rd_takeClauses 42 = .ok (.iconst 2, 1) := by decide +kernel
theorem d_Rd_takeClauses_43 : decode b_Rd_takeClauses 43 = .ok (.bipush 99, 2) := by decide +kernel
theorem d_Rd_takeClauses_45 : decode b_Rd_takeClauses 45 = .ok (.invokevirtual 71, 3) := by decide +kernel
theorem d_Rd_takeClauses_48 : decode b_Rd_takeClauses 48 = .ok (.ifCond .ne 5, 3) := by decide +kernel
theorem d_Rd_takeClauses_51 : decode b_Rd_takeClauses 51 = .ok (.iconst 0, 1) := by decide +kernel
theorem d_Rd_takeClauses_52 : decode b_Rd_takeClauses 52 = .ok (.ireturn, 1) := by decide +kernel
theorem d_Rd_takeClauses_53 : decode b_Rd_takeClauses 53 = .ok (.aload_n 0, 1) := by decide +kernel
theorem d_Rd_takeClauses_54 : decode b_Rd_takeClauses 54 = .ok (.aload_n 0, 1) := by decide +kernel
theorem d_Rd_takeClauses_55 : decode b_Rd_takeClauses 55 = .ok (.getfield 22, 3) := by decide +kernel
theorem d_Rd_takeClauses_58 : decode b_Rd_takeClauses 58 = .ok (.putfield 31, 3) := by decide +kernel
theorem d_Rd_takeClauses_61 : decode b_Rd_takeClauses 61 = .ok (.aload_n 0, 1) := by decide +kernel
theorem d_Rd_takeClauses_62 : decode b_Rd_takeClauses 62 = .ok (.ldc 90, 2) := by decide +kernel
theorem d_Rd_takeClauses_64 : decode b_Rd_takeClauses 64 = .ok (.invokevirtual 83, 3) := by decide +kernel
theorem d_Rd_takeClauses_67 : decode b_Rd_takeClauses 67 = .ok (.ifCond .eq 40, 3) := by decide +kernel
theorem d_Rd_takeClauses_70 : decode b_Rd_takeClauses 70 = .ok (.aload_n 0, 1) := by decide +kernel
theorem d_Rd_takeClauses_71 : decode b_Rd_takeClauses 71 = .ok (.invokevirtual 68, 3) := by decide +kernel
theorem d_Rd_takeClauses_74 : decode b_Rd_takeClauses 74 = .ok (.ifCond .eq 13, 3) := by decide +kernel
theorem d_Rd_takeClauses_77 : decode b_Rd_takeClauses 77 = .ok (.aload_n 0, 1) := by decide +kernel
theorem d_Rd_takeClauses_78 : decode b_Rd_takeClauses 78 = .ok (.iconst 1, 1) := by decide +kernel
theorem d_Rd_takeClauses_79 : decode b_Rd_takeClauses 79 = .ok (.bipush 99, 2) := by decide +kernel
theorem d_Rd_takeClauses_81 : decode b_Rd_takeClauses 81 = .ok (.invokevirtual 71, 3) := by decide +kernel
theorem d_Rd_takeClauses_84 : decode b_Rd_takeClauses 84 = .ok (.ifCond .ne 5, 3) := by decide +kernel
theorem d_Rd_takeClauses_87 : decode b_Rd_takeClauses 87 = .ok (.iconst 0, 1) := by decide +kernel
theorem d_Rd_takeClauses_88 : decode b_Rd_takeClauses 88 = .ok (.ireturn, 1) := by decide +kernel
theorem d_Rd_takeClauses_89 : decode b_Rd_takeClauses 89 = .ok (.aload_n 0, 1) := by decide +kernel
theorem d_Rd_takeClauses_90 : decode b_Rd_takeClauses 90 = .ok (.aload_n 0, 1) := by decide +kernel
theorem d_Rd_takeClauses_91 : decode b_Rd_takeClauses 91 = .ok (.getfield 22, 3) := by decide +kernel
theorem d_Rd_takeClauses_94 : decode b_Rd_takeClauses 94 = .ok (.putfield 34, 3) := by decide +kernel
theorem d_Rd_takeClauses_97 : decode b_Rd_takeClauses 97 = .ok (.aload_n 0, 1) := by decide +kernel
theorem d_Rd_takeClauses_98 : decode b_Rd_takeClauses 98 = .ok (.aload_n 0, 1) := by decide +kernel
theorem d_Rd_takeClauses_99 : decode b_Rd_takeClauses 99 = .ok (.ldc 91, 2) := by decide +kernel
theorem d_Rd_takeClauses_101 : decode b_Rd_takeClauses 101 = .ok (.invokevirtual 83, 3) := by decide +kernel
theorem d_Rd_takeClauses_104 : decode b_Rd_takeClauses 104 = .ok (.putfield 37, 3) := by decide +kernel
theorem d_Rd_takeClauses_107 : decode b_Rd_takeClauses 107 = .ok (.iconst 1, 1) := by decide +kernel
theorem d_Rd_takeClauses_108 : decode b_Rd_takeClauses 108 = .ok (.ireturn, 1) := by decide +kernel
theorem d_Rd_takeEnd_0 : decode b_Rd_takeEnd 0 = .ok (.aload_n 0, 1) := by decide +kernel
theorem d_Rd_takeEnd_1 : decode b_Rd_takeEnd 1 = .ok (.getfield 19, 3) := by decide +kernel
theorem d_Rd_takeEnd_4 : decode b_Rd_takeEnd 4 = .ok (.aload_n 0, 1) := by decide +kernel
theorem d_Rd_takeEnd_5 : decode b_Rd_takeEnd 5 = .ok (.getfield 15, 3) := by decide +kernel
theorem d_Rd_takeEnd_8 : decode b_Rd_takeEnd 8 = .ok (.if_icmp .ne 5, 3) := by decide +kernel
theorem d_Rd_takeEnd_11 : decode b_Rd_takeEnd 11 = .ok (.iconst 1, 1) := by decide +kernel
theorem d_Rd_takeEnd_12 : decode b_Rd_takeEnd 12 = .ok (.ireturn, 1) := by decide +kernel
theorem d_Rd_takeEnd_13 : decode b_Rd_takeEnd 13 = .ok (.aload_n 0, 1) := by decide +kernel
theorem d_Rd_takeEnd_14 : decode b_Rd_takeEnd 14 = .ok (.invokevirtual 68, 3) := by decide +kernel
theorem d_Rd_takeEnd_17 : decode b_Rd_takeEnd 17 = .ok (.pop, 1) := by decide +kernel
theorem d_Rd_takeEnd_18 : decode b_Rd_takeEnd 18 = .ok (.iconst 0, 1) := by decide +kernel
theorem d_Rd_takeEnd_19 : decode b_Rd_takeEnd 19 = .ok (.ireturn, 1) := by decide +kernel
theorem d_Rd_takeMonths_0 : decode b_Rd_takeMonths 0 = .ok (.iconst 0, 1) := by decide +kernel
theorem d_Rd_takeMonths_1 : decode b_Rd_takeMonths 1 = .ok (.istore_n 1, 1) := by decide +kernel
theorem d_Rd_takeMonths_2 : decode b_Rd_takeMonths 2 = .ok (.iconst 0, 1) := by decide +kernel
theorem d_Rd_takeMonths_3 : decode b_Rd_takeMonths 3 = .ok (.istore_n 2, 1) := by decide +kernel
theorem d_Rd_takeMonths_4 : decode b_Rd_takeMonths 4 = .ok (.iload_n 2, 1) := by decide +kernel
theorem d_Rd_takeMonths_5 : decode b_Rd_takeMonths 5 = .ok (.bipush 12, 2) := by decide +kernel
theorem d_Rd_takeMonths_7 : decode b_Rd_takeMonths 7 = .ok (.if_icmp .gt 64, 3) := by decide +kernel
theorem d_Rd_takeMonths_10 : decode b_Rd_takeMonths 10 = .ok (.aload_n 0, 1) := by decide +kernel
theorem d_Rd_takeMonths_11 : decode b_Rd_takeMonths 11 = .ok (.iload_n 1, 1) := by decide +kernel
theorem d_Rd_takeMonths_12 : decode b_Rd_takeMonths 12 = .ok (.bipush 11, 2) := by decide +kernel
theorem d_Rd_takeMonths_14 : decode b_Rd_takeMonths 14 = .ok (.invokevirtual 71, 3) := by decide +kernel
theorem d_Rd_takeMonths_17 : decode b_Rd_takeMonths 17 = .ok (.ifCond .ne 5, 3) := by decide +kernel
theorem d_Rd_takeMonths_20 : decode b_Rd_takeMonths 20 = .ok (.iconst 0, 1) := by decide +kernel
theorem d_Rd_takeMonths_21 : decode b_Rd_takeMonths 21 = .ok (.ireturn, 1) := by decide +kernel
theorem d_Rd_takeMonths_22 : decode b_Rd_takeMonths 22 = .ok (.aload_n 0, 1) := by decide +kernel
theorem d_Rd_takeMonths_23 : decode b_Rd_takeMonths 23 = .ok (.dup, 1) := by decide +kernel
theorem d_Rd_takeMonths_24 : decode b_Rd_takeMonths 24 = .ok (.getfield 28, 3) := by decide +kernel
theorem d_Rd_takeMonths_27 : decode b_Rd_takeMonths 27 = .ok (.iconst 1, 1) := by decide +kernel
theorem d_Rd_takeMonths_28 : decode b_Rd_takeMonths 28 = .ok (.aload_n 0, 1) := by decide +kernel
theorem d_Rd_takeMonths_29 : decode b_Rd_takeMonths 29 = .ok (.getfield 22, 3) := by decide +kernel
theorem d_Rd_takeMonths_32 : decode b_Rd_takeMonths 32 = .ok (.ishl, 1) := by decide +kernel
theorem d_Rd_takeMonths_33 : decode b_Rd_takeMonths 33 = .ok (.ior, 1) := by decide +kernel
theorem d_Rd_takeMonths_34 : decode b_Rd_takeMonths 34 = .ok (.putfield 28, 3) := by decide +kernel
theorem d_Rd_takeMonths_37 : decode b_Rd_takeMonths 37 = .ok (.aload_n 0, 1) := by decide +kernel
theorem d_Rd_takeMonths_38 : decode b_Rd_takeMonths 38 = .ok (.getfield 22, 3) := by decide +kernel
theorem d_Rd_takeMonths_41 : decode b_Rd_takeMonths 41 = .ok (.iconst 1, 1) := by decide +kernel
theorem d_Rd_takeMonths_42 : decode b_Rd_takeMonths 42 = .ok (.iadd, 1) := by decide +kernel
theorem d_Rd_takeMonths_43 : decode b_Rd_takeMonths 43 = .ok (.istore_n 1, 1) := by decide +kernel
theorem d_Rd_takeMonths_44 : decode b_Rd_takeMonths 44 = .ok (.aload_n 0, 1) := by decide +kernel
theorem d_Rd_takeMonths_45 : decode b_Rd_takeMonths 45 = .ok (.invokevirtual 93, 3) := by decide +kernel
theorem d_Rd_takeMonths_48 : decode b_Rd_takeMonths 48 = .ok (.bipush 44, 2) := by decide +kernel
theorem d_Rd_takeMonths_50 : decode b_Rd_takeMonths 50 = .ok (.if_icmp .eq 5, 3) := by decide +kernel
theorem d_Rd_takeMonths_53 : decode b_Rd_takeMonths 53 = .ok (.iconst 1, 1) := by decide +kernel
theorem d_Rd_takeMonths_54 : decode b_Rd_takeMonths 54 = .ok (.ireturn, 1) := by decide +kernel
theorem d_Rd_takeMonths_55 : decode b_Rd_takeMonths 55 = .ok (.aload_n 0, 1) := by decide +kernel
theorem d_Rd_takeMonths_56 : decode b_Rd_takeMonths 56 = .ok (.dup, 1) := by decide +kernel
theorem d_Rd_takeMonths_57 : decode b_Rd_takeMonths 57 = .ok (.getfield 19, 3) := by decide +kernel
theorem d_Rd_takeMonths_60 : decode b_Rd_takeMonths 60 = .ok (.iconst 1, 1) := by decide +kernel
theorem d_Rd_takeMonths_61 : decode b_Rd_takeMonths 61 = .ok (.iadd, 1) := by decide +kernel
theorem d_Rd_takeMonths_62 : decode b_Rd_takeMonths 62 = .ok (.putfield 19, 3) := by decide +kernel
theorem d_Rd_takeMonths_65 : decode b_Rd_takeMonths 65 = .ok (.iinc 2 1, 3) := by decide +kernel
theorem d_Rd_takeMonths_68 : decode b_Rd_takeMonths 68 = .ok (.goto (-64), 3) := by decide +kernel
theorem d_Rd_takeMonths_71 : decode b_Rd_takeMonths 71 = .ok (.iconst 0, 1) := by decide +kernel
theorem d_Rd_takeMonths_72 : decode b_Rd_takeMonths 72 = .ok (.ireturn, 1) := by decide +kernel
theorem d_Rd_takeNextWord_0 : decode b_Rd_takeNextWord 0 = .ok (.aload_n 0, 1) := by decide +kernel
theorem d_Rd_takeNextWord_1 : decode b_Rd_takeNextWord 1 = .ok (.getfield 19, 3) := by decide +kernel
theorem d_Rd_takeNextWord_4 : decode b_Rd_takeNextWord 4 = .ok (.istore_n 2, 1) := by decide +kernel
theorem d_Rd_takeNextWord_5 : decode b_Rd_takeNextWord 5 = .ok (.aload_n 0, 1) := by decide +kernel
theorem d_Rd_takeNextWord_6 : decode b_Rd_takeNextWord 6 = .ok (.invokevirtual 68, 3) := by decide +kernel
theorem d_Rd_takeNextWord_9 : decode b_Rd_takeNextWord 9 = .ok (.ifCond .eq 13, 3) := by decide +kernel
theorem d_Rd_takeNextWord_12 : decode b_Rd_takeNextWord 12 = .ok (.aload_n 0, 1) := by decide +kernel
theorem d_Rd_takeNextWord_13 : decode b_Rd_takeNextWord 13 = .ok (.aload_n 1, 1) := by decide +kernel
theorem d_Rd_takeNextWord_14 : decode b_Rd_takeNextWord 14 = .ok (.invokevirtual 64, 3) := by decide +kernel
theorem d_Rd_takeNextWord_17 : decode b_Rd_takeNextWord 17 = .ok (.ifCond .eq 5, 3) := by decide +kernel
theorem d_Rd_takeNextWord_20 : decode b_Rd_takeNextWord 20 = .ok (.iconst 1, 1) := by decide +kernel
theorem d_Rd_takeNextWord_21 : decode b_Rd_takeNextWord 21 = .ok (.ireturn, 1) := by decide +kernel
theorem d_Rd_takeNextWord_22 : decode b_Rd_takeNextWord 22 = .ok (.aload_n 0, 1) := by decide +kernel
theorem d_Rd_takeNextWord_23 : decode b_Rd_takeNextWord 23 = .ok (.iload_n 2, 1) := by decide +kernel
theorem d_Rd_takeNextWord_24 : decode b_Rd_takeNextWord 24 = .ok (.putfield 19, 3) := by decide +kernel
theorem d_Rd_takeNextWord_27 : decode b_Rd_takeNextWord 27 = .ok (.iconst 0, 1) := by decide +kernel
theorem d_Rd_takeNextWord_28 : decode b_Rd_takeNextWord 28 = .ok (.ireturn, 1) := by decide +kernel
theorem d_Rd_takeSpace_0 : decode b_Rd_takeSpace 0 = .ok (.aload_n 0, 1) := by decide +kernel
theorem d_Rd_takeSpace_1 : decode b_Rd_takeSpace 1 = .ok (.invokevirtual 93, 3) := by decide +kernel
theorem d_Rd_takeSpace_4 : decode b_Rd_takeSpace 4 = .ok (.bipush 32, 2) := by decide +kernel
theorem d_Rd_takeSpace_6 : decode b_Rd_takeSpace 6 = .ok (.if_icmp .eq 5, 3) := by decide +kernel
theorem d_Rd_takeSpace_9 : decode b_Rd_takeSpace 9 = .ok (.iconst 0, 1) := by decide +kernel
theorem d_Rd_takeSpace_10 : decode b_Rd_takeSpace 10 = .ok (.ireturn, 1) := by decide +kernel
theorem d_Rd_takeSpace_11 : decode b_Rd_takeSpace 11 = .ok (.aload_n 0, 1) := by decide +kernel
theorem d_Rd_takeSpace_12 : decode b_Rd_takeSpace 12 = .ok (.dup, 1) := by decide +kernel
theorem d_Rd_takeSpace_13 : decode b_Rd_takeSpace 13 = .ok (.getfield 19, 3) := by decide +kernel
theorem d_Rd_takeSpace_16 : decode b_Rd_takeSpace 16 = .ok (.iconst 1, 1) := by decide +kernel
theorem d_Rd_takeSpace_17 : decode b_Rd_takeSpace 17 = .ok (.iadd, 1) := by decide +kernel
theorem d_Rd_takeSpace_18 : decode b_Rd_takeSpace 18 = .ok (.putfield 19, 3) := by decide +kernel
theorem d_Rd_takeSpace_21 : decode b_Rd_takeSpace 21 = .ok (.iconst 1, 1) := by decide +kernel
theorem d_Rd_takeSpace_22 : decode b_Rd_takeSpace 22 = .ok (.ireturn, 1) := by decide +kernel
theorem d_Rd_takeWord_0 : decode b_Rd_takeWord 0 = .ok (.aload_n 0, 1) := by decide +kernel
theorem d_Rd_takeWord_1 : decode b_Rd_takeWord 1 = .ok (.getfield 19, 3) := by decide +kernel
theorem d_Rd_takeWord_4 : decode b_Rd_takeWord 4 = .ok (.aload_n 1, 1) := by decide +kernel
theorem d_Rd_takeWord_5 : decode b_Rd_takeWord 5 = .ok (.invokevirtual 97, 3) := by decide +kernel
theorem d_Rd_takeWord_8 : decode b_Rd_takeWord 8 = .ok (.iadd, 1) := by decide +kernel
theorem d_Rd_takeWord_9 : decode b_Rd_takeWord 9 = .ok (.istore_n 2, 1) := by decide +kernel
theorem d_Rd_takeWord_10 : decode b_Rd_takeWord 10 = .ok (.iload_n 2, 1) := by decide +kernel
theorem d_Rd_takeWord_11 : decode b_Rd_takeWord 11 = .ok (.aload_n 0, 1) := by decide +kernel
theorem d_Rd_takeWord_12 : decode b_Rd_takeWord 12 = .ok (.getfield 15, 3) := by decide +kernel
theorem d_Rd_takeWord_15 : decode b_Rd_takeWord 15 = .ok (.if_icmp .gt 14, 3) := by decide +kernel
theorem d_Rd_takeWord_18 : decode b_Rd_takeWord 18 = .ok (.aload_n 0, 1) := by decide +kernel
theorem d_Rd_takeWord_19 : decode b_Rd_takeWord 19 = .ok (.iload_n 2, 1) := by decide +kernel
theorem d_Rd_takeWord_20 : decode b_Rd_takeWord 20 = .ok (.invokevirtual 101, 3) := by decide +kernel
theorem d_Rd_takeWord_23 : decode b_Rd_takeWord 23 = .ok (.invokestatic 105, 3) := by decide +kernel
theorem d_Rd_takeWord_26 : decode b_Rd_takeWord 26 = .ok (.ifCond .eq 5, 3) := by decide +kernel
theorem d_Rd_takeWord_29 : decode b_Rd_takeWord 29 = .ok (.iconst 0, 1) := by decide +kernel
theorem d_Rd_takeWord_30 : decode b_Rd_takeWord 30 = .ok (.ireturn, 1) := by decide +kernel
theorem d_Rd_takeWord_31 : decode b_Rd_takeWord 31 = .ok (.iconst 0, 1) := by decide +kernel
theorem d_Rd_takeWord_32 : decode b_Rd_takeWord 32 = .ok (.istore_n 3, 1) := by decide +kernel
theorem d_Rd_takeWord_33 : decode b_Rd_takeWord 33 = .ok (.iload_n 3, 1) := by decide +kernel
theorem d_Rd_takeWord_34 : decode b_Rd_takeWord 34 = .ok (.aload_n 1, 1) := by decide +kernel
theorem d_Rd_takeWord_35 : decode b_Rd_takeWord 35 = .ok (.invokevirtual 97, 3) := by decide +kernel
theorem d_Rd_takeWord_38 : decode b_Rd_takeWord 38 = .ok (.if_icmp .ge 29, 3) := by decide +kernel
theorem d_Rd_takeWord_41 : decode b_Rd_takeWord 41 = .ok (.aload_n 0, 1) := by decide +kernel
theorem d_Rd_takeWord_42 : decode b_Rd_takeWord 42 = .ok (.aload_n 0, 1) := by decide +kernel
theorem d_Rd_takeWord_43 : decode b_Rd_takeWord 43 = .ok (.getfield 19, 3) := by decide +kernel
theorem d_Rd_takeWord_46 : decode b_Rd_takeWord 46 = .ok (.iload_n 3, 1) := by decide +kernel
theorem d_Rd_takeWord_47 : decode b_Rd_takeWord 47 = .ok (.iadd, 1) := by decide +kernel
theorem d_Rd_takeWord_48 : decode b_Rd_takeWord 48 = .ok (.invokevirtual 101, 3) := by decide +kernel
theorem d_Rd_takeWord_51 : decode b_Rd_takeWord 51 = .ok (.aload_n 1, 1) := by decide +kernel
theorem d_Rd_takeWord_52 : decode b_Rd_takeWord 52 = .ok (.iload_n 3, 1) := by decide +kernel
theorem d_Rd_takeWord_53 : decode b_Rd_takeWord 53 = .ok (.invokevirtual 109, 3) := by decide +kernel
theorem d_Rd_takeWord_56 : decode b_Rd_takeWord 56 = .ok (.if_icmp .eq 5, 3) := by decide +kernel
theorem d_Rd_takeWord_59 : decode b_Rd_takeWord 59 = .ok (.iconst 0, 1) := by decide +kernel
theorem d_Rd_takeWord_60 : decode b_Rd_takeWord 60 = .ok (.ireturn, 1) := by decide +kernel
theorem d_Rd_takeWord_61 : decode b_Rd_takeWord 61 = .ok (.iinc 3 1, 3) := by decide +kernel
theorem d_Rd_takeWord_64 : decode b_Rd_takeWord 64 = .ok (.goto (-31), 3) := by decide +kernel
theorem d_Rd_takeWord_67 : decode b_Rd_takeWord 67 = .ok (.aload_n 0, 1) := by decide +kernel
theorem d_Rd_takeWord_68 : decode b_Rd_takeWord 68 = .ok (.iload_n 2, 1) := by decide +kernel
theorem d_Rd_takeWord_69 : decode b_Rd_takeWord 69 = .ok (.putfield 19, 3) := by decide +kernel
theorem d_Rd_takeWord_72 : decode b_Rd_takeWord 72 = .ok (.iconst 1, 1) := by decide +kernel
theorem d_Rd_takeWord_73 : decode b_Rd_takeWord 73 = .ok (.ireturn, 1) := by decide +kernel
theorem d_Rd_takeNumber_0 : decode b_Rd_takeNumber 0 = .ok (.aload_n 0, 1) := by decide +kernel
theorem d_Rd_takeNumber_1 : decode b_Rd_takeNumber 1 = .ok (.getfield 19, 3) := by decide +kernel
theorem d_Rd_takeNumber_4 : decode b_Rd_takeNumber 4 = .ok (.istore_n 3, 1) := by decide +kernel
theorem d_Rd_takeNumber_5 : decode b_Rd_takeNumber 5 = .ok (.iconst 0, 1) := by decide +kernel
theorem d_Rd_takeNumber_6 : decode b_Rd_takeNumber 6 = .ok (.istore 4, 2) := by decide +kernel
theorem d_Rd_takeNumber_8 : decode b_Rd_takeNumber 8 = .ok (.iload_n 3, 1) := by decide +kernel
theorem d_Rd_takeNumber_9 : decode b_Rd_takeNumber 9 = .ok (.aload_n 0, 1) := by decide +kernel
theorem d_Rd_takeNumber_10 : decode b_Rd_takeNumber 10 = .ok (.getfield 15, 3) := by decide +kernel
theorem d_Rd_takeNumber_13 : decode b_Rd_takeNumber 13 = .ok (.if_icmp .ge 41, 3) := by decide +kernel
theorem d_Rd_takeNumber_16 : decode b_Rd_takeNumber 16 = .ok (.aload_n 0, 1) := by decide +kernel
theorem d_Rd_takeNumber_17 : decode b_Rd_takeNumber 17 = .ok (.iload_n 3, 1) := by decide +kernel
theorem d_Rd_takeNumber_18 : decode b_Rd_takeNumber 18 = .ok (.invokevirtual 101, 3) := by decide +kernel
theorem d_Rd_takeNumber_21 : decode b_Rd_takeNumber 21 = .ok (.invokestatic 113, 3) := by decide +kernel
theorem d_Rd_takeNumber_24 : decode b_Rd_takeNumber 24 = .ok (.ifCond .eq 30, 3) := by decide +kernel
theorem d_Rd_takeNumber_27 : decode b_Rd_takeNumber 27 = .ok (.iload 4, 2) := by decide +kernel
theorem d_Rd_takeNumber_29 : decode b_Rd_takeNumber 29 = .ok (.bipush 10, 2) := by decide +kernel
theorem d_Rd_takeNumber_31 : decode b_Rd_takeNumber 31 = .ok (.imul, 1) := by decide +kernel
theorem d_Rd_takeNumber_32 : decode b_Rd_takeNumber 32 = .ok (.aload_n 0, 1) := by decide +kernel
theorem d_Rd_takeNumber_33 : decode b_Rd_takeNumber 33 = .ok (.iload_n 3, 1) := by decide +kernel
theorem d_Rd_takeNumber_34 : decode b_Rd_takeNumber 34 = .ok (.invokevirtual 101, 3) := by decide +kernel
theorem d_Rd_takeNumber_37 : decode b_Rd_takeNumber 37 = .ok (.iadd, 1) := by decide +kernel
theorem d_Rd_takeNumber_38 : decode b_Rd_takeNumber 38 = .ok (.bipush 48, 2) := by decide +kernel
theorem d_Rd_takeNumber_40 : decode b_Rd_takeNumber 40 = .ok (.isub, 1) := by decide +kernel
theorem d_Rd_takeNumber_41 : decode b_Rd_takeNumber 41 = .ok (.bipush 100, 2) := by decide +kernel
theorem d_Rd_takeNumber_43 : decode b_Rd_takeNumber 43 = .ok (.invokestatic 116, 3) := by decide +kernel
theorem d_Rd_takeNumber_46 : decode b_Rd_takeNumber 46 = .ok (.istore 4, 2) := by decide +kernel
theorem d_Rd_takeNumber_48 : decode b_Rd_takeNumber 48 = .ok (.iinc 3 1, 3) := by decide +kernel
theorem d_Rd_takeNumber_51 : decode b_Rd_takeNumber 51 = .ok (.goto (-43), 3) := by decide +kernel
theorem d_Rd_takeNumber_54 : decode b_Rd_takeNumber 54 = .ok (.iload_n 3, 1) := by decide +kernel
theorem d_Rd_takeNumber_55 : decode b_Rd_takeNumber 55 = .ok (.aload_n 0, 1) := by decide +kernel
theorem d_Rd_takeNumber_56 : decode b_Rd_takeNumber 56 = .ok (.getfield 19, 3) := by decide +kernel
theorem d_Rd_takeNumber_59 : decode b_Rd_takeNumber 59 = .ok (.if_icmp .ne 7, 3) := by decide +kernel
theorem d_Rd_takeNumber_62 : decode b_Rd_takeNumber 62 = .ok (.iconst 1, 1) := by decide +kernel
theorem d_Rd_takeNumber_63 : decode b_Rd_takeNumber 63 = .ok (.goto 4, 3) := by decide +kernel
theorem d_Rd_takeNumber_66 : decode b_Rd_takeNumber 66 = .ok (.iconst 0, 1) := by decide +kernel
theorem d_Rd_takeNumber_67 : decode b_Rd_takeNumber 67 = .ok (.istore 5, 2) := by decide +kernel
theorem d_Rd_takeNumber_69 : decode b_Rd_takeNumber 69 = .ok (.aload_n 0, 1) := by decide +kernel
theorem d_Rd_takeNumber_70 : decode b_Rd_takeNumber 70 = .ok (.invokevirtual 93, 3) := by decide +kernel
theorem d_Rd_takeNumber_73 : decode b_Rd_takeNumber 73 = .ok (.bipush 48, 2) := by decide +kernel
theorem d_Rd_takeNumber_75 : decode b_Rd_takeNumber 75 = .ok (.if_icmp .ne 17, 3) := by decide +kernel
theorem d_Rd_takeNumber_78 : decode b_Rd_takeNumber 78 = .ok (.iload_n 3, 1) := by decide +kernel
theorem d_Rd_takeNumber_79 : decode b_Rd_takeNumber 79 = .ok (.aload_n 0, 1) := by decide +kernel
theorem d_Rd_takeNumber_80 : decode b_Rd_takeNumber 80 = .ok (.getfield 19, 3) := by decide +kernel
theorem d_Rd_takeNumber_83 : decode b_Rd_takeNumber 83 = .ok (.isub, 1) := by decide +kernel
theorem d_Rd_takeNumber_84 : decode b_Rd_takeNumber 84 = .ok (.iconst 1, 1) := by decide +kernel
theorem d_Rd_takeNumber_85 : decode b_Rd_takeNumber 85 = .ok (.if_icmp .le 7, 3) := by decide +kernel
theorem d_Rd_takeNumber_88 : decode b_Rd_takeNumber 88 = .ok (.iconst 1, 1) := by decide +kernel
theorem d_Rd_takeNumber_89 : decode b_Rd_takeNumber 89 = .ok (.goto 4, 3) := by decide +kernel
theorem d_Rd_takeNumber_92 : decode b_Rd_takeNumber 92 = .ok (.iconst 0, 1) := by decide +kernel
theorem d_Rd_takeNumber_93 : decode b_Rd_takeNumber 93 = .ok (.istore 6, 2) := by decide +kernel
theorem d_Rd_takeNumber_95 : decode b_Rd_takeNumber 95 = .ok (.iload 5, 2) := by decide +kernel
theorem d_Rd_takeNumber_97 : decode b_Rd_takeNumber 97 = .ok (.ifCond .ne 20, 3) := by decide +kernel
theorem d_Rd_takeNumber_100 : decode b_Rd_takeNumber 100 = .ok (.iload 6, 2) := by decide +kernel
theorem d_Rd_takeNumber_102 : decode b_Rd_takeNumber 102 = .ok (.ifCond .ne 15, 3) := by decide +kernel
theorem d_Rd_takeNumber_105 : decode b_Rd_takeNumber 105 = .ok (.iload 4, 2) := by decide +kernel
theorem d_Rd_takeNumber_107 : decode b_Rd_takeNumber 107 = .ok (.iload_n 1, 1) := by decide +kernel
theorem d_Rd_takeNumber_108 : decode b_Rd_takeNumber 108 = .ok (.if_icmp .lt 9, 3) := by decide +kernel
theorem d_Rd_takeNumber_111 : decode b_Rd_takeNumber 111 = .ok (.iload 4, 2) := by decide +kernel
theorem d_Rd_takeNumber_113 : decode b_Rd_takeNumber 113 = .ok (.iload_n 2, 1) := by decide +kernel
theorem d_Rd_takeNumber_114 : decode b_Rd_takeNumber 114 = .ok (.if_icmp .le 5, 3) := by decide +kernel
theorem d_Rd_takeNumber_117 : decode b_Rd_takeNumber 117 = .ok (.iconst 0, 1) := by decide +kernel
theorem d_Rd_takeNumber_118 : decode b_Rd_takeNumber 118 = .ok (.ireturn, 1) := by decide +kernel
theorem d_Rd_takeNumber_119 : decode b_Rd_takeNumber 119 = .ok (.aload_n 0, 1) := by decide +kernel
theorem d_Rd_takeNumber_120 : decode b_Rd_takeNumber 120 = .ok (.iload 4, 2) := by decide +kernel
theorem d_Rd_takeNumber_122 : decode b_Rd_takeNumber 122 = .ok (.putfield 22, 3) := by decide +kernel
theorem d_Rd_takeNumber_125 : decode b_Rd_takeNumber 125 = .ok (.aload_n 0, 1) := by decide +kernel
theorem d_Rd_takeNumber_126 : decode b_Rd_takeNumber 126 = .ok (.iload_n 3, 1) := by decide +kernel
theorem d_Rd_takeNumber_127 : decode b_Rd_takeNumber 127 = .ok (.putfield 19, 3) := by decide +kernel
theorem d_Rd_takeNumber_130 : decode b_Rd_takeNumber 130 = .ok (.iconst 1, 1) := by decide +kernel
theorem d_Rd_takeNumber_131 : decode b_Rd_takeNumber 131 = .ok (.ireturn, 1) := by decide +kernel
theorem d_Rd_signHere_0 : decode b_Rd_signHere 0 = .ok (.aload_n 0, 1) := by decide +kernel
theorem d_Rd_signHere_1 : decode b_Rd_signHere 1 = .ok (.aload_n 0, 1) := by decide +kernel
theorem d_Rd_signHere_2 : decode b_Rd_signHere 2 = .ok (.getfield 19, 3) := by decide +kernel
theorem d_Rd_signHere_5 : decode b_Rd_signHere 5 = .ok (.invokevirtual 101, 3) := by decide +kernel
theorem d_Rd_signHere_8 : decode b_Rd_signHere 8 = .ok (.ireturn, 1) := by decide +kernel
theorem d_Rd_signAt_0 : decode b_Rd_signAt 0 = .ok (.iload_n 1, 1) := by decide +kernel
theorem d_Rd_signAt_1 : decode b_Rd_signAt 1 = .ok (.ifCond .lt 26, 3) := by decide +kernel
theorem d_Rd_signAt_4 : decode b_Rd_signAt 4 = .ok (.iload_n 1, 1) := by decide +kernel
theorem d_Rd_signAt_5 : decode b_Rd_signAt 5 = .ok (.aload_n 0, 1) := by decide +kernel
theorem d_Rd_signAt_6 : decode b_Rd_signAt 6 = .ok (.getfield 15, 3) := by decide +kernel
theorem d_Rd_signAt_9 : decode b_Rd_signAt 9 = .ok (.if_icmp .ge 18, 3) := by decide +kernel
theorem d_Rd_signAt_12 : decode b_Rd_signAt 12 = .ok (.iload_n 1, 1) := by decide +kernel
theorem d_Rd_signAt_13 : decode b_Rd_signAt 13 = .ok (.bipush 120, 2) := by decide +kernel
theorem d_Rd_signAt_15 : decode b_Rd_signAt 15 = .ok (.if_icmp .ge 12, 3) := by decide +kernel
theorem d_Rd_signAt_18 : decode b_Rd_signAt 18 = .ok (.aload_n 0, 1) := by decide +kernel
theorem d_Rd_signAt_19 : decode b_Rd_signAt 19 = .ok (.getfield 9, 3) := by decide +kernel
theorem d_Rd_signAt_22 : decode b_Rd_signAt 22 = .ok (.iload_n 1, 1) := by decide +kernel
theorem d_Rd_signAt_23 : decode b_Rd_signAt 23 = .ok (.iaload, 1) := by decide +kernel
theorem d_Rd_signAt_24 : decode b_Rd_signAt 24 = .ok (.goto 4, 3) := by decide +kernel
theorem d_Rd_signAt_27 : decode b_Rd_signAt 27 = .ok (.iconst (-1), 1) := by decide +kernel
theorem d_Rd_signAt_28 : decode b_Rd_signAt 28 = .ok (.ireturn, 1) := by decide +kernel
theorem d_Rd_isDigit_0 : decode b_Rd_isDigit 0 = .ok (.iload_n 0, 1) := by decide +kernel
theorem d_Rd_isDigit_1 : decode b_Rd_isDigit 1 = .ok (.bipush 48, 2) := by decide +kernel
theorem d_Rd_isDigit_3 : decode b_Rd_isDigit 3 = .ok (.if_icmp .lt 13, 3) := by decide +kernel
theorem d_Rd_isDigit_6 : decode b_Rd_isDigit 6 = .ok (.iload_n 0, 1) := by decide +kernel
theorem d_Rd_isDigit_7 : decode b_Rd_isDigit 7 = .ok (.bipush 57, 2) := by decide +kernel
theorem d_Rd_isDigit_9 : decode b_Rd_isDigit 9 = .ok (.if_icmp .gt 7, 3) := by decide +kernel
theorem d_Rd_isDigit_12 : decode b_Rd_isDigit 12 = .ok (.iconst 1, 1) := by decide +kernel
theorem d_Rd_isDigit_13 : decode b_Rd_isDigit 13 = .ok (.goto 4, 3) := by decide +kernel
theorem d_Rd_isDigit_16 : decode b_Rd_isDigit 16 = .ok (.iconst 0, 1) := by decide +kernel
theorem d_Rd_isDigit_17 : decode b_Rd_isDigit 17 = .ok (.ireturn, 1) := by decide +kernel
theorem d_Rd_isLetter_0 : decode b_Rd_isLetter 0 = .ok (.iload_n 0, 1) := by decide +kernel
theorem d_Rd_isLetter_1 : decode b_Rd_isLetter 1 = .ok (.bipush 97, 2) := by decide +kernel
theorem d_Rd_isLetter_3 : decode b_Rd_isLetter 3 = .ok (.if_icmp .lt 9, 3) := by decide +kernel
theorem d_Rd_isLetter_6 : decode b_Rd_isLetter 6 = .ok (.iload_n 0, 1) := by decide +kernel
theorem d_Rd_isLetter_7 : decode b_Rd_isLetter 7 = .ok (.bipush 122, 2) := by decide +kernel
theorem d_Rd_isLetter_9 : decode b_Rd_isLetter 9 = .ok (.if_icmp .le 15, 3) := by decide +kernel
theorem d_Rd_isLetter_12 : decode b_Rd_isLetter 12 = .ok (.iload_n 0, 1) := by decide +kernel
theorem d_Rd_isLetter_13 : decode b_Rd_isLetter 13 = .ok (.bipush 65, 2) := by decide +kernel
theorem d_Rd_isLetter_15 : decode b_Rd_isLetter 15 = .ok (.if_icmp .lt 13, 3) := by decide +kernel
theorem d_Rd_isLetter_18 : decode b_Rd_isLetter 18 = .ok (.iload_n 0, 1) := by decide +kernel
theorem d_Rd_isLetter_19 : decode b_Rd_isLetter 19 = .ok (.bipush 90, 2) := by decide +kernel
theorem d_Rd_isLetter_21 : decode b_Rd_isLetter 21 = .ok (.if_icmp .gt 7, 3) := by decide +kernel
theorem d_Rd_isLetter_24 : decode b_Rd_isLetter 24 = .ok (.iconst 1, 1) := by decide +kernel
theorem d_Rd_isLetter_25 : decode b_Rd_isLetter 25 = .ok (.goto 4, 3) := by decide +kernel
theorem d_Rd_isLetter_28 : decode b_Rd_isLetter 28 = .ok (.iconst 0, 1) := by decide +kernel
theorem d_Rd_isLetter_29 : decode b_Rd_isLetter 29 = .ok (.ireturn, 1) := by decide +kernel
end
section
/-! what the class does, as functions: the reader of signs t, n of them -/
def rd_sg (t : Nat → Int32) (n k : Nat) : Int32 := if k < n then t k else (-1)
def rd_dig (x : Int32) : Bool := decide (48 ≤ x) && decide (x ≤ 57)
def rd_let (x : Int32) : Bool := (decide (97 ≤ x) && decide (x ≤ 122)) || (decide (65 ≤ x) && decide (x ≤ 90))
def rd_sp (t : Nat → Int32) (n p : Nat) : Bool := decide (rd_sg t n p = 32)
def rd_eqw (t : Nat → Int32) (n p : Nat) (w : Nat → Int32) (L : Nat) : Bool := decide (∀ j, j < L → rd_sg t n (p + j) = w j)
def rd_word (t : Nat → Int32) (n p : Nat) (w : Nat → Int32) (L : Nat) : Bool := decide (p + L ≤ n) && (!rd_let (rd_sg t n (p + L)) && rd_eqw t n p w L)
def rd_next (t : Nat → Int32) (n p : Nat) (w : Nat → Int32) (L : Nat) : Bool := rd_sp t n p && rd_word t n (p + 1) w L
def rd_dv (x : Int32) : Nat := x.toNatClampNeg - 48
/-- digits from k on: where they end, their number kept at most 100 -/
def rd_dg (t : Nat → Int32) (n : Nat) : Nat → Nat → Nat → Nat × Nat
  | 0, k, v => (k, v)
  | f + 1, k, v => cond (rd_dig (rd_sg t n k)) (rd_dg t n f (k + 1) (min (v * 10 + rd_dv (rd_sg t n k)) 100)) (k, v)
def rd_end (t : Nat → Int32) (n p : Nat) : Nat := (rd_dg t n (n - p) p 0).1
def rd_val (t : Nat → Int32) (n p : Nat) : Nat := (rd_dg t n (n - p) p 0).2
def rd_num (t : Nat → Int32) (n lo hi p : Nat) : Bool := !decide (rd_end t n p = p) && (!(decide (rd_sg t n p = 48) && decide (1 < rd_end t n p - p)) && (decide (lo ≤ rd_val t n p) && decide (rd_val t n p ≤ hi)))
/-- months: right?, place, number, those left out -/
def rd_mon (t : Nat → Int32) (n : Nat) : Nat → Nat → Nat → Int32 → Int32 → Bool × Nat × Int32 × Int32
  | 0, _, p, nu, mo => (false, p, nu, mo)
  | f + 1, lo, p, nu, mo => cond (rd_num t n lo 11 p)
      (cond (decide (rd_sg t n (rd_end t n p) = 44))
        (rd_mon t n f (rd_val t n p + 1) (rd_end t n p + 1) (nI (rd_val t n p)) (mo ||| ((1 : Int32) <<< (nI (rd_val t n p) &&& 31))))
        (true, rd_end t n p, nI (rd_val t n p), mo ||| ((1 : Int32) <<< (nI (rd_val t n p) &&& 31))))
      (false, p, nu, mo)
/-- the steps of a pattern -/
def pt_on (mo : Int32) (x : Nat) : Bool := decide (mo &&& ((1 : Int32) <<< (nI (x / 30 % 12) &&& 31)) = 0)
def pt_sw (sd : Nat) (mo : Int32) (d : Nat) : Nat → Nat → Option Nat
  | 0, _ => none
  | f + 1, x => if d + 1800 ≤ x ∨ 1000000 < x then none else cond (pt_on mo x) (some x) (pt_sw sd mo d f (x + sd))
def pt_oi (o : Option Nat) : Int32 := match o with
  | none => (-1)
  | some x => nI x
def pt_yr (sd : Nat) (mo : Int32) (d : Nat) : Nat → Nat → Nat → Nat
  | 0, _, c => c
  | f + 1, x, c => if x < d + 360 then pt_yr sd mo d f (x + sd) (cond (pt_on mo x) (c + 1) c) else c
def pt_nums (jo : Nat) (k : Nat) : Nat := if 0 < jo ∧ k % jo = 0 then 2 else 1
def pt_vol (vo k : Nat) : Nat := if 0 < vo then (k - 1) / vo + 1 else 0
def pt_told (re : Bool) (vo k : Nat) : Nat := if re = true ∧ 0 < vo then (k - 1) % vo + 1 else k
/-- the holidays, going up: the day itself, or the next one that is none -/
def ho_from (h : Nat → Int32) : Nat → Nat → Int32 → Int32
  | 0, _, x => x
  | f + 1, k, x => ho_from h f (k + 1) (if h k = x then x + 1 else x)
theorem rd_sp_lt {tx : Nat → Int32} {n p : Nat} (h : rd_sp tx n p = true) : p < n := by
  unfold rd_sp rd_sg at h
  by_cases hp : p < n
  · exact hp
  · rw [if_neg hp] at h
    exact absurd h (by decide)
theorem rd_dig_lt {tx : Nat → Int32} {n p : Nat} (h : rd_dig (rd_sg tx n p) = true) : p < n := by
  unfold rd_sg at h
  by_cases hp : p < n
  · exact hp
  · rw [if_neg hp] at h
    exact absurd h (by decide)
theorem rd_word_le {tx : Nat → Int32} {n p : Nat} {w : Nat → Int32} {L : Nat} (h : rd_word tx n p w L = true) : p + L ≤ n := by
  simp only [rd_word, Bool.and_eq_true, decide_eq_true_eq] at h
  exact h.1
theorem rd_dv_eq {x : Int32} (h : rd_dig x = true) : x = nI (rd_dv x + 48) ∧ rd_dv x ≤ 9 := by
  simp only [rd_dig, Bool.and_eq_true, decide_eq_true_eq, Int32.le_iff_toInt_le, Int32.reduceToInt] at h
  obtain ⟨j, hj, e⟩ := nI_of (x := x) (by rw [Int32.lt_iff_toInt_lt]; simp only [Int32.reduceToInt]; omega)
  subst e
  rw [nI_toInt hj] at h
  unfold rd_dv
  rw [nI_clamp hj]
  constructor
  · congr 1; omega
  · omega
theorem rd_min (a : Nat) (ha : a < 2 ^ 31) : (if (100 : Int32) < nI a then (100 : Int32) else nI a) = nI (min a 100) := by
  by_cases h : 100 < a
  · rw [if_pos (show (100 : Int32) < nI a from (nI_ltI (a := 100) (by omega) ha).mpr h), Nat.min_eq_right (by omega)]; rfl
  · rw [if_neg (show ¬ (100 : Int32) < nI a from fun z => h ((nI_ltI (a := 100) (by omega) ha).mp z)), Nat.min_eq_left (by omega)]
theorem rd_dg_go {tx : Nat → Int32} {n k v : Nat} (hk : k < n) (h : rd_dig (rd_sg tx n k) = true) : rd_dg tx n (n - k) k v = rd_dg tx n (n - (k + 1)) (k + 1) (min (v * 10 + rd_dv (rd_sg tx n k)) 100) := by
  obtain ⟨f, hf⟩ : ∃ f, n - k = f + 1 := ⟨n - k - 1, by omega⟩
  rw [hf, show n - (k + 1) = f by omega, rd_dg, h]
  rfl
theorem rd_dg_end {tx : Nat → Int32} {n k v : Nat} (h : n ≤ k ∨ rd_dig (rd_sg tx n k) = false) : rd_dg tx n (n - k) k v = (k, v) := by
  cases hf : n - k with
  | zero => rfl
  | succ f =>
    rcases h with h | h
    · omega
    · rw [rd_dg, h]; rfl
theorem rd_dg_le (tx : Nat → Int32) (n : Nat) : ∀ (f k v : Nat), k ≤ n → k ≤ (rd_dg tx n f k v).1 ∧ (rd_dg tx n f k v).1 ≤ n ∧ (v ≤ 100 → (rd_dg tx n f k v).2 ≤ 100) := by
  intro f
  induction f with
  | zero => intro k v hk; exact ⟨Nat.le_refl _, hk, fun h => h⟩
  | succ f ih =>
    intro k v hk
    rw [rd_dg]
    cases hd : rd_dig (rd_sg tx n k) with
    | false => exact ⟨Nat.le_refl _, hk, fun h => h⟩
    | true =>
      have hl := rd_dig_lt hd
      obtain ⟨h1, h2, h3⟩ := ih (k + 1) (min (v * 10 + rd_dv (rd_sg tx n k)) 100) hl
      exact ⟨Nat.le_trans (Nat.le_succ k) h1, h2, fun _ => h3 (Nat.min_le_right _ _)⟩
theorem rd_end_le {tx : Nat → Int32} {n p : Nat} (hp : p ≤ n) : p ≤ rd_end tx n p ∧ rd_end tx n p ≤ n ∧ rd_val tx n p ≤ 100 := by
  obtain ⟨h1, h2, h3⟩ := rd_dg_le tx n (n - p) p 0 hp
  exact ⟨h1, h2, h3 (by omega)⟩
theorem rd_num_le {tx : Nat → Int32} {n lo hi p : Nat} (h : rd_num tx n lo hi p = true) : lo ≤ rd_val tx n p ∧ rd_val tx n p ≤ hi := by
  simp only [rd_num, Bool.and_eq_true, decide_eq_true_eq] at h
  exact ⟨h.2.2.1, h.2.2.2⟩
end
section
set_option maxHeartbeats 4000000 in
set_option maxRecDepth 100000 in
/-- isDigit -/
theorem c_Rd_isDigit (l : Launch) (dC : Nat → ClassId) (dI : Nat → Nat → Nat) (x : Int32) : Met l y_Rd_isDigit w_Rd_isDigit ({ frames := 0, cells := 0, slots := 0, locals := 0 }) (va_Pc [.int x] (wy_R (dC, dI) ga_cl [] [])) (vp_Si (fun r => r = bo_I (rd_dig x))) 0 0 (fun _ => False) := by
  refine Met.ofW (cc := b_Rd_isDigit) (maxL := 1) (ret := (some .boolean)) (by decide) rfl ?_
  intro p e s m args below meth c s₁ B hml hv
  obtain ⟨rfl, hP, hK, hN⟩ := hv
  have hx := B.exec
  have hb := B.bytes
  have hr := B.returns
  have hts : ∀ w ∈ ga_tbl, w.before _ s = true := fun w h => atoms_spec (ws := w_Rd_isDigit) B.pre w (List.mem_cons_of_mem _ h)
  have hown : s.vm.findClass "PatternText$PatternReader" = some m.cls := findClass_of_methodNamed B.named
  have hlocks := B.notSynchronized
  have hl := lv_entry ([.int x]) (n := 1) (Nat.le_of_ble_eq_true rfl)
  rw [lg_entry_eq]
  generalize (lg_sl ([.int x]) ++ List.replicate (1 - (lg_sl ([.int x])).length) Slot.unset).toArray = ls at hl ⊢
  have hl : lv_has ls 1 [(0, .int x)] := hl
  refine lv_iload_n hx hb d_Rd_isDigit_0 rfl (lv_at hl 0 rfl) ?_
  refine lv_bipush (v := 48) hx hb d_Rd_isDigit_1 (by decide) ?_
  refine lv_icmp_lt (tgt := 16) hx hb d_Rd_isDigit_3 (by decide) (fun c_3 => ?_) (fun c_3 => ?_)
  · refine lv_iconst (v := 0) hx hb d_Rd_isDigit_16 (by decide) ?_
    have z9 : rd_dig x = false := by simp only [rd_dig, Bool.or_eq_false_iff, Bool.and_eq_false_iff, decide_eq_false_iff_not, Int32.le_iff_toInt_le, Int32.lt_iff_toInt_lt, Int32.reduceToInt] at *; omega
    have q9 : (0 : Int32) = bo_I (rd_dig x) := by rw [z9]; rfl
    exact W.zret (v := 0) hx hb hr rfl (fun t ht _ => ⟨_, rfl, q9, ht⟩) (fun _ h9 => by cases h9) d_Rd_isDigit_17
  · refine lv_iload_n hx hb d_Rd_isDigit_6 rfl (lv_at hl 0 rfl) ?_
    refine lv_bipush (v := 57) hx hb d_Rd_isDigit_7 (by decide) ?_
    refine lv_icmp_gt (tgt := 16) hx hb d_Rd_isDigit_9 (by decide) (fun c_9 => ?_) (fun c_9 => ?_)
    · refine lv_iconst (v := 0) hx hb d_Rd_isDigit_16 (by decide) ?_
      have z9 : rd_dig x = false := by simp only [rd_dig, Bool.or_eq_false_iff, Bool.and_eq_false_iff, decide_eq_false_iff_not, Int32.le_iff_toInt_le, Int32.lt_iff_toInt_lt, Int32.reduceToInt] at *; omega
      have q9 : (0 : Int32) = bo_I (rd_dig x) := by rw [z9]; rfl
      exact W.zret (v := 0) hx hb hr rfl (fun t ht _ => ⟨_, rfl, q9, ht⟩) (fun _ h9 => by cases h9) d_Rd_isDigit_17
    · refine lv_iconst (v := 1) hx hb d_Rd_isDigit_12 (by decide) ?_
      refine lv_goto (tgt := 17) hx hb d_Rd_isDigit_13 (by decide) ?_
      have z9 : rd_dig x = true := by simp only [rd_dig, Bool.or_eq_true, Bool.and_eq_true, decide_eq_true_eq, Int32.le_iff_toInt_le, Int32.lt_iff_toInt_lt, Int32.reduceToInt] at *; omega
      have q9 : (1 : Int32) = bo_I (rd_dig x) := by rw [z9]; rfl
      exact W.zret (v := 1) hx hb hr rfl (fun t ht _ => ⟨_, rfl, q9, ht⟩) (fun _ h9 => by cases h9) d_Rd_isDigit_17

set_option maxHeartbeats 4000000 in
set_option maxRecDepth 100000 in
/-- isLetter -/
theorem c_Rd_isLetter (l : Launch) (dC : Nat → ClassId) (dI : Nat → Nat → Nat) (x : Int32) : Met l y_Rd_isLetter w_Rd_isLetter ({ frames := 0, cells := 0, slots := 0, locals := 0 }) (va_Pc [.int x] (wy_R (dC, dI) ga_cl [] [])) (vp_Si (fun r => r = bo_I (rd_let x))) 0 0 (fun _ => False) := by
  refine Met.ofW (cc := b_Rd_isLetter) (maxL := 1) (ret := (some .boolean)) (by decide) rfl ?_
  intro p e s m args below meth c s₁ B hml hv
  obtain ⟨rfl, hP, hK, hN⟩ := hv
  have hx := B.exec
  have hb := B.bytes
  have hr := B.returns
  have hts : ∀ w ∈ ga_tbl, w.before _ s = true := fun w h => atoms_spec (ws := w_Rd_isLetter) B.pre w (List.mem_cons_of_mem _ h)
  have hown : s.vm.findClass "PatternText$PatternReader" = some m.cls := findClass_of_methodNamed B.named
  have hlocks := B.notSynchronized
  have hl := lv_entry ([.int x]) (n := 1) (Nat.le_of_ble_eq_true rfl)
  rw [lg_entry_eq]
  generalize (lg_sl ([.int x]) ++ List.replicate (1 - (lg_sl ([.int x])).length) Slot.unset).toArray = ls at hl ⊢
  have hl : lv_has ls 1 [(0, .int x)] := hl
  refine lv_iload_n hx hb d_Rd_isLetter_0 rfl (lv_at hl 0 rfl) ?_
  refine lv_bipush (v := 97) hx hb d_Rd_isLetter_1 (by decide) ?_
  refine lv_icmp_lt (tgt := 12) hx hb d_Rd_isLetter_3 (by decide) (fun c_3 => ?_) (fun c_3 => ?_)
  · refine lv_iload_n hx hb d_Rd_isLetter_12 rfl (lv_at hl 0 rfl) ?_
    refine lv_bipush (v := 65) hx hb d_Rd_isLetter_13 (by decide) ?_
    refine lv_icmp_lt (tgt := 28) hx hb d_Rd_isLetter_15 (by decide) (fun c_15 => ?_) (fun c_15 => ?_)
    · refine lv_iconst (v := 0) hx hb d_Rd_isLetter_28 (by decide) ?_
      have z9 : rd_let x = false := by simp only [rd_let, Bool.or_eq_false_iff, Bool.and_eq_false_iff, decide_eq_false_iff_not, Int32.le_iff_toInt_le, Int32.lt_iff_toInt_lt, Int32.reduceToInt] at *; omega
      have q9 : (0 : Int32) = bo_I (rd_let x) := by rw [z9]; rfl
      exact W.zret (v := 0) hx hb hr rfl (fun t ht _ => ⟨_, rfl, q9, ht⟩) (fun _ h9 => by cases h9) d_Rd_isLetter_29
    · refine lv_iload_n hx hb d_Rd_isLetter_18 rfl (lv_at hl 0 rfl) ?_
      refine lv_bipush (v := 90) hx hb d_Rd_isLetter_19 (by decide) ?_
      refine lv_icmp_gt (tgt := 28) hx hb d_Rd_isLetter_21 (by decide) (fun c_21 => ?_) (fun c_21 => ?_)
      · refine lv_iconst (v := 0) hx hb d_Rd_isLetter_28 (by decide) ?_
        have z9 : rd_let x = false := by simp only [rd_let, Bool.or_eq_false_iff, Bool.and_eq_false_iff, decide_eq_false_iff_not, Int32.le_iff_toInt_le, Int32.lt_iff_toInt_lt, Int32.reduceToInt] at *; omega
        have q9 : (0 : Int32) = bo_I (rd_let x) := by rw [z9]; rfl
        exact W.zret (v := 0) hx hb hr rfl (fun t ht _ => ⟨_, rfl, q9, ht⟩) (fun _ h9 => by cases h9) d_Rd_isLetter_29
      · refine lv_iconst (v := 1) hx hb d_Rd_isLetter_24 (by decide) ?_
        refine lv_goto (tgt := 29) hx hb d_Rd_isLetter_25 (by decide) ?_
        have z9 : rd_let x = true := by simp only [rd_let, Bool.or_eq_true, Bool.and_eq_true, decide_eq_true_eq, Int32.le_iff_toInt_le, Int32.lt_iff_toInt_lt, Int32.reduceToInt] at *; omega
        have q9 : (1 : Int32) = bo_I (rd_let x) := by rw [z9]; rfl
        exact W.zret (v := 1) hx hb hr rfl (fun t ht _ => ⟨_, rfl, q9, ht⟩) (fun _ h9 => by cases h9) d_Rd_isLetter_29
  · refine lv_iload_n hx hb d_Rd_isLetter_6 rfl (lv_at hl 0 rfl) ?_
    refine lv_bipush (v := 122) hx hb d_Rd_isLetter_7 (by decide) ?_
    refine lv_icmp_le (tgt := 24) hx hb d_Rd_isLetter_9 (by decide) (fun c_9 => ?_) (fun c_9 => ?_)
    · refine lv_iconst (v := 1) hx hb d_Rd_isLetter_24 (by decide) ?_
      refine lv_goto (tgt := 29) hx hb d_Rd_isLetter_25 (by decide) ?_
      have z9 : rd_let x = true := by simp only [rd_let, Bool.or_eq_true, Bool.and_eq_true, decide_eq_true_eq, Int32.le_iff_toInt_le, Int32.lt_iff_toInt_lt, Int32.reduceToInt] at *; omega
      have q9 : (1 : Int32) = bo_I (rd_let x) := by rw [z9]; rfl
      exact W.zret (v := 1) hx hb hr rfl (fun t ht _ => ⟨_, rfl, q9, ht⟩) (fun _ h9 => by cases h9) d_Rd_isLetter_29
    · refine lv_iload_n hx hb d_Rd_isLetter_12 rfl (lv_at hl 0 rfl) ?_
      refine lv_bipush (v := 65) hx hb d_Rd_isLetter_13 (by decide) ?_
      refine lv_icmp_lt (tgt := 28) hx hb d_Rd_isLetter_15 (by decide) (fun c_15 => ?_) (fun c_15 => ?_)
      · refine lv_iconst (v := 0) hx hb d_Rd_isLetter_28 (by decide) ?_
        have z9 : rd_let x = false := by simp only [rd_let, Bool.or_eq_false_iff, Bool.and_eq_false_iff, decide_eq_false_iff_not, Int32.le_iff_toInt_le, Int32.lt_iff_toInt_lt, Int32.reduceToInt] at *; omega
        have q9 : (0 : Int32) = bo_I (rd_let x) := by rw [z9]; rfl
        exact W.zret (v := 0) hx hb hr rfl (fun t ht _ => ⟨_, rfl, q9, ht⟩) (fun _ h9 => by cases h9) d_Rd_isLetter_29
      · refine lv_iload_n hx hb d_Rd_isLetter_18 rfl (lv_at hl 0 rfl) ?_
        refine lv_bipush (v := 90) hx hb d_Rd_isLetter_19 (by decide) ?_
        refine lv_icmp_gt (tgt := 28) hx hb d_Rd_isLetter_21 (by decide) (fun c_21 => ?_) (fun c_21 => ?_)
        · refine lv_iconst (v := 0) hx hb d_Rd_isLetter_28 (by decide) ?_
          have z9 : rd_let x = false := by simp only [rd_let, Bool.or_eq_false_iff, Bool.and_eq_false_iff, decide_eq_false_iff_not, Int32.le_iff_toInt_le, Int32.lt_iff_toInt_lt, Int32.reduceToInt] at *; omega
          have q9 : (0 : Int32) = bo_I (rd_let x) := by rw [z9]; rfl
          exact W.zret (v := 0) hx hb hr rfl (fun t ht _ => ⟨_, rfl, q9, ht⟩) (fun _ h9 => by cases h9) d_Rd_isLetter_29
        · refine lv_iconst (v := 1) hx hb d_Rd_isLetter_24 (by decide) ?_
          refine lv_goto (tgt := 29) hx hb d_Rd_isLetter_25 (by decide) ?_
          have z9 : rd_let x = true := by simp only [rd_let, Bool.or_eq_true, Bool.and_eq_true, decide_eq_true_eq, Int32.le_iff_toInt_le, Int32.lt_iff_toInt_lt, Int32.reduceToInt] at *; omega
          have q9 : (1 : Int32) = bo_I (rd_let x) := by rw [z9]; rfl
          exact W.zret (v := 1) hx hb hr rfl (fun t ht _ => ⟨_, rfl, q9, ht⟩) (fun _ h9 => by cases h9) d_Rd_isLetter_29

set_option maxHeartbeats 4000000 in
set_option maxRecDepth 100000 in
/-- signAt -/
theorem c_Rd_signAt (l : Launch) (dC : Nat → ClassId) (dI : Nat → Nat → Nat) (rd : Nat) (sa : Nat) (cI : ClassId) (tx : Nat → Int32) (n : Nat) (pv : Int32) (nu : Int32) (st : Int32) (mo : Int32) (jo : Int32) (vo : Int32) (re : Bool) (k : Nat) (hn : n ≤ 120) (hk : k < 2 ^ 31) : Met l y_Rd_signAt w_Rd_signAt ({ frames := 0, cells := 0, slots := 0, locals := 0 }) (va_Pc [.ref rd, .int (nI k)] (wy_R (dC, dI) ga_cl [(rd, .inr (3, [.ref sa, .int (nI n), .int pv, .int nu, .int st, .int mo, .int jo, .int vo, .int (bo_I re)])), (sa, .inl (cI, 120, .inl tx))] [(cI, .int)])) (vp_Si (fun r => r = rd_sg tx n k)) 0 0 (fun _ => False) := by
  refine Met.ofW (cc := b_Rd_signAt) (maxL := 2) (ret := (some .int)) (by decide) rfl ?_
  intro p e s m args below meth c s₁ B hml hv
  obtain ⟨rfl, hP, hK, hN⟩ := hv
  have hx := B.exec
  have hb := B.bytes
  have hr := B.returns
  have hts : ∀ w ∈ ga_tbl, w.before _ s = true := fun w h => atoms_spec (ws := w_Rd_signAt) B.pre w (List.mem_cons_of_mem _ h)
  have hown : s.vm.findClass "PatternText$PatternReader" = some m.cls := findClass_of_methodNamed B.named
  have hlocks := B.notSynchronized
  have hl := lv_entry ([.ref rd, .int (nI k)]) (n := 2) (Nat.le_of_ble_eq_true rfl)
  rw [lg_entry_eq]
  generalize (lg_sl ([.ref rd, .int (nI k)]) ++ List.replicate (2 - (lg_sl ([.ref rd, .int (nI k)])).length) Slot.unset).toArray = ls at hl ⊢
  have hl : lv_has ls 2 [(0, .ref rd), (1, .int (nI k))] := hl
  refine lv_iload_n hx hb d_Rd_signAt_0 rfl (lv_at hl 1 rfl) ?_
  refine wy_ifltN (tgt := 27) hx hb k (by omega) d_Rd_signAt_1 (by decide) ?_
  refine lv_iload_n hx hb d_Rd_signAt_4 rfl (lv_at hl 1 rfl) ?_
  refine lv_aload_n hx hb d_Rd_signAt_5 rfl (lv_at hl 0 rfl) ?_
  refine va_get (D := (dC, dI)) (ci := 3) (v := .int (nI n)) (C := "PatternText$PatternReader") (T := F_Rd) (N := 9) hx hb hts iw_Rd hown hK hP 0 rfl rfl 1 (by decide) (hts _ kw_65) (fun _ h9 => h9) rfl d_Rd_signAt_6 ?_
  refine wy_icmp_ge (tgt := 27) hx hb k n (by omega) (by omega) d_Rd_signAt_9 (by decide) (fun c_9 => ?_) (fun c_9 => ?_)
  · refine lv_iconst (v := -1) hx hb d_Rd_signAt_27 (by decide) ?_
    have q9 : ((-1) : Int32) = rd_sg tx n k := by simp [rd_sg]; omega
    exact W.iret (v := (-1)) hx hb hr (fun t ht _ => ⟨_, rfl, q9, ht⟩) (fun _ h9 => by cases h9) d_Rd_signAt_28
  · refine lv_iload_n hx hb d_Rd_signAt_12 rfl (lv_at hl 1 rfl) ?_
    refine lv_bipush (v := 120) hx hb d_Rd_signAt_13 (by decide) ?_
    refine wy_icmp_ge (tgt := 27) hx hb k 120 (by omega) (by omega) d_Rd_signAt_15 (by decide) (fun c_15 => ?_) (fun c_15 => ?_)
    · refine lv_iconst (v := -1) hx hb d_Rd_signAt_27 (by decide) ?_
      have q9 : ((-1) : Int32) = rd_sg tx n k := by simp [rd_sg]; omega
      exact W.iret (v := (-1)) hx hb hr (fun t ht _ => ⟨_, rfl, q9, ht⟩) (fun _ h9 => by cases h9) d_Rd_signAt_28
    · refine lv_aload_n hx hb d_Rd_signAt_18 rfl (lv_at hl 0 rfl) ?_
      refine va_get (D := (dC, dI)) (ci := 3) (v := .ref sa) (C := "PatternText$PatternReader") (T := F_Rd) (N := 9) hx hb hts iw_Rd hown hK hP 0 rfl rfl 0 (by decide) (hts _ kw_64) (fun _ h9 => h9) rfl d_Rd_signAt_19 ?_
      refine lv_iload_n hx hb d_Rd_signAt_22 rfl (lv_at hl 1 rfl) ?_
      refine wy_iald hx hb hK hP 1 0 k rfl rfl (by omega) (by omega) d_Rd_signAt_23 ?_
      refine lv_goto (tgt := 28) hx hb d_Rd_signAt_24 (by decide) ?_
      have q9 : (tx k : Int32) = rd_sg tx n k := by simp [rd_sg]; omega
      exact W.iret (v := tx k) hx hb hr (fun t ht _ => ⟨_, rfl, q9, ht⟩) (fun _ h9 => by cases h9) d_Rd_signAt_28

set_option maxHeartbeats 4000000 in
set_option maxRecDepth 100000 in
/-- signHere -/
theorem c_Rd_signHere (l : Launch) (dC : Nat → ClassId) (dI : Nat → Nat → Nat) (rd : Nat) (sa : Nat) (cI : ClassId) (tx : Nat → Int32) (n : Nat) (pp : Nat) (nu : Int32) (st : Int32) (mo : Int32) (jo : Int32) (vo : Int32) (re : Bool) (hn : n ≤ 120) (hp : pp < 2 ^ 31) : Met l y_Rd_signHere w_Rd_signHere ({ frames := 1, cells := 0, slots := 0, locals := 21 }) (va_Pc [.ref rd] (wy_R (dC, dI) ga_cl [(rd, .inr (3, [.ref sa, .int (nI n), .int (nI pp), .int nu, .int st, .int mo, .int jo, .int vo, .int (bo_I re)])), (sa, .inl (cI, 120, .inl tx))] [(cI, .int)])) (vp_Si (fun r => r = rd_sg tx n pp)) 0 0 (fun _ => False) := by
  refine Met.ofW (cc := b_Rd_signHere) (maxL := 1) (ret := (some .int)) (by decide) rfl ?_
  intro p e s m args below meth c s₁ B hml hv
  obtain ⟨rfl, hP, hK, hN⟩ := hv
  have hx := B.exec
  have hb := B.bytes
  have hr := B.returns
  have hts : ∀ w ∈ ga_tbl, w.before _ s = true := fun w h => atoms_spec (ws := w_Rd_signHere) B.pre w (List.mem_cons_of_mem _ h)
  have hown : s.vm.findClass "PatternText$PatternReader" = some m.cls := findClass_of_methodNamed B.named
  have hlocks := B.notSynchronized
  have hl := lv_entry ([.ref rd]) (n := 1) (Nat.le_of_ble_eq_true rfl)
  rw [lg_entry_eq]
  generalize (lg_sl ([.ref rd]) ++ List.replicate (1 - (lg_sl ([.ref rd])).length) Slot.unset).toArray = ls at hl ⊢
  have hl : lv_has ls 1 [(0, .ref rd)] := hl
  refine lv_aload_n hx hb d_Rd_signHere_0 rfl (lv_at hl 0 rfl) ?_
  refine lv_aload_n hx hb d_Rd_signHere_1 rfl (lv_at hl 0 rfl) ?_
  refine va_get (D := (dC, dI)) (ci := 3) (v := .int (nI pp)) (C := "PatternText$PatternReader") (T := F_Rd) (N := 9) hx hb hts iw_Rd hown hK hP 0 rfl rfl 2 (by decide) (hts _ kw_66) (fun _ h9 => h9) rfl d_Rd_signHere_2 ?_
  refine vp_callSi (va_runV (As := [.int (nI pp)]) (rest := []) ⟨hx, hb, hml, hown, hts⟩ (c_Rd_signAt l dC dI rd sa cI tx n (nI pp) nu st mo jo vo re pp (by omega) (by omega)) (cwV 1 hts (ga_V kw_209 kw_211 kw_2 kw_35 (ga_in kw_212)) rfl rfl rfl (by decide +kernel) ⟨Nat.le_of_ble_eq_true rfl, Nat.le_of_ble_eq_true rfl⟩) (wy_preV 0 (hP.sub (ws' := [(rd, .inr (3, [.ref sa, .int (nI n), .int (nI pp), .int nu, .int st, .int mo, .int jo, .int vo, .int (bo_I re)])), (sa, .inl (cI, 120, .inl tx))]) [0, 1] rfl) (hK.sub (tys' := [(cI, .int)]) [0] rfl) hN (ci := 3) rfl rfl rfl) rfl rfl hl.1 rfl (lv_room (Nat.le_of_ble_eq_true rfl)) d_Rd_signHere_5 ⟨Nat.le_of_ble_eq_true rfl, Nat.le_of_ble_eq_true rfl⟩).run (fun r_5 h_5 => ?_)
  subst h_5
  have q9 : (rd_sg tx n pp : Int32) = rd_sg tx n pp := by rfl
  exact W.iret (v := rd_sg tx n pp) hx hb hr (fun t ht _ => ⟨_, rfl, q9, ht⟩) (fun _ h9 => by cases h9) d_Rd_signHere_8

set_option maxHeartbeats 4000000 in
set_option maxRecDepth 100000 in
/-- takeSpace -/
theorem c_Rd_takeSpace (l : Launch) (dC : Nat → ClassId) (dI : Nat → Nat → Nat) (sz : Nat) (rd : Nat) (sa : Nat) (cI : ClassId) (tx : Nat → Int32) (n : Nat) (pp : Nat) (nu : Int32) (st : Int32) (mo : Int32) (jo : Int32) (vo : Int32) (re : Bool) (hn : n ≤ 120) (hp : pp < 2 ^ 31) : Met l y_Rd_takeSpace w_Rd_takeSpace ({ frames := 2, cells := 0, slots := 0, locals := 41 }) (va_Pc [.ref rd] (wy_M (dC, dI) ga_cl [(rd, .inr (3, [.ref sa, .int (nI n), .int (nI pp), .int nu, .int st, .int mo, .int jo, .int vo, .int (bo_I re)])), (sa, .inl (cI, 120, .inl tx))] [(cI, .int)] sz)) (va_Qi (fun (r : Int32) (_ : Unit) => r = bo_I (rd_sp tx n pp)) (fun _ => wy_N (dC, dI) ga_cl [(cI, .int)] (va_A [(rd, .inr (3, [.ref sa, .int (nI n), .int (nI pp), .int nu, .int st, .int mo, .int jo, .int vo, .int (bo_I re)])), (sa, .inl (cI, 120, .inl tx))] sz) [(rd, .inr (3, [.ref sa, .int (nI n), .int (nI (cond (rd_sp tx n pp) (pp + 1) pp)), .int nu, .int st, .int mo, .int jo, .int vo, .int (bo_I re)])), (sa, .inl (cI, 120, .inl tx))]) (va_A [(rd, .inr (3, [.ref sa, .int (nI n), .int (nI pp), .int nu, .int st, .int mo, .int jo, .int vo, .int (bo_I re)])), (sa, .inl (cI, 120, .inl tx))] sz)) 0 0 (va_A [(rd, .inr (3, [.ref sa, .int (nI n), .int (nI pp), .int nu, .int st, .int mo, .int jo, .int vo, .int (bo_I re)])), (sa, .inl (cI, 120, .inl tx))] sz) := by
  refine Met.ofW (cc := b_Rd_takeSpace) (maxL := 1) (ret := (some .boolean)) (by decide) rfl ?_
  intro p e s m args below meth c s₁ B hml hv
  obtain ⟨rfl, hsz, hP, hK, hN, hD0⟩ := hv
  have hx := B.exec
  have hb := B.bytes
  have hr := B.returns
  have hts : ∀ w ∈ ga_tbl, w.before _ s = true := fun w h => atoms_spec (ws := w_Rd_takeSpace) B.pre w (List.mem_cons_of_mem _ h)
  have hown : s.vm.findClass "PatternText$PatternReader" = some m.cls := findClass_of_methodNamed B.named
  have hlocks := B.notSynchronized
  subst hsz
  have hD := hD0.self (sz := s.heap.size)
  generalize hAe : va_A [(rd, .inr (3, [.ref sa, .int (nI n), .int (nI pp), .int nu, .int st, .int mo, .int jo, .int vo, .int (bo_I re)])), (sa, .inl (cI, 120, .inl tx))] s.heap.size = A at hD ⊢
  have hA : ∀ q : Nat, s.heap.size ≤ q → A q := fun q h => by rw [← hAe]; exact Or.inr h
  have hS : va_S A s.heap s.heap [] := va_S.rf
  have hl := lv_entry ([.ref rd]) (n := 1) (Nat.le_of_ble_eq_true rfl)
  rw [lg_entry_eq]
  generalize (lg_sl ([.ref rd]) ++ List.replicate (1 - (lg_sl ([.ref rd])).length) Slot.unset).toArray = ls at hl ⊢
  have hl : lv_has ls 1 [(0, .ref rd)] := hl
  obtain ⟨Q0, hQ⟩ : ∃ Q0 : State → Prop, Q0 = MQ below (va_Qi (fun (r : Int32) (_ : Unit) => r = bo_I (rd_sp tx n pp)) (fun _ => wy_N (dC, dI) ga_cl [(cI, .int)] A [(rd, .inr (3, [.ref sa, .int (nI n), .int (nI (cond (rd_sp tx n pp) (pp + 1) pp)), .int nu, .int st, .int mo, .int jo, .int vo, .int (bo_I re)])), (sa, .inl (cI, 120, .inl tx))]) A) ([.ref rd] : List Value).toArray s 0 0 A := ⟨_, rfl⟩
  show W p l e ({ frames := 2, cells := 0, slots := 0, locals := 41 }) s m ([.ref rd] : List Value).toArray below meth c s.heap [] 0 0 (MQ below (va_Qi (fun (r : Int32) (_ : Unit) => r = bo_I (rd_sp tx n pp)) (fun _ => wy_N (dC, dI) ga_cl [(cI, .int)] A [(rd, .inr (3, [.ref sa, .int (nI n), .int (nI (cond (rd_sp tx n pp) (pp + 1) pp)), .int nu, .int st, .int mo, .int jo, .int vo, .int (bo_I re)])), (sa, .inl (cI, 120, .inl tx))]) A) ([.ref rd] : List Value).toArray s 0 0 A) (F0 m 0 ls [])
  rw [← hQ]
  refine lv_aload_n hx hb d_Rd_takeSpace_0 rfl (lv_at hl 0 rfl) ?_
  refine vp_callSi (va_runV (As := []) (rest := []) ⟨hx, hb, hml, hown, hts⟩ (c_Rd_signHere l dC dI rd sa cI tx n pp nu st mo jo vo re (by omega) (by omega)) (cwV 0 hts (ga_V kw_258 kw_260 kw_4 kw_35 (ga_in kw_261)) rfl rfl rfl (by decide +kernel) ⟨Nat.le_of_ble_eq_true rfl, Nat.le_of_ble_eq_true rfl⟩) (wy_preV 0 (hP.sub (ws' := [(rd, .inr (3, [.ref sa, .int (nI n), .int (nI pp), .int nu, .int st, .int mo, .int jo, .int vo, .int (bo_I re)])), (sa, .inl (cI, 120, .inl tx))]) [0, 1] rfl) (hK.sub (tys' := [(cI, .int)]) [0] rfl) hN (ci := 3) rfl rfl rfl) rfl rfl hl.1 rfl (lv_room (Nat.le_of_ble_eq_true rfl)) d_Rd_takeSpace_1 ⟨Nat.le_of_ble_eq_true rfl, Nat.le_of_ble_eq_true rfl⟩).run (fun r_1 h_1 => ?_)
  subst h_1
  refine lv_bipush (v := 32) hx hb d_Rd_takeSpace_4 (by decide) ?_
  refine lv_icmp_eq (tgt := 11) hx hb d_Rd_takeSpace_6 (by decide) (fun c_6 => ?_) (fun c_6 => ?_)
  · refine lv_aload_n hx hb d_Rd_takeSpace_11 rfl (lv_at hl 0 rfl) ?_
    refine lv_dup hx hb d_Rd_takeSpace_12 rfl ?_
    refine va_get (D := (dC, dI)) (ci := 3) (v := .int (nI pp)) (C := "PatternText$PatternReader") (T := F_Rd) (N := 9) hx hb hts iw_Rd hown hK hP 0 rfl rfl 2 (by decide) (hts _ kw_66) (fun _ h9 => h9) rfl d_Rd_takeSpace_13 ?_
    refine lv_iconst (v := 1) hx hb d_Rd_takeSpace_16 (by decide) ?_
    refine wy_iadd hx hb pp 1 d_Rd_takeSpace_17 ?_
    refine va_put (D := (dC, dI)) (ci := 3) (v := .int (nI (pp + 1))) (ty := .int) (C := "PatternText$PatternReader") (T := F_Rd) (N := 9) hx hb hts iw_Rd t_Rd t_Rd_ok n_Rd hown hK hP hD hS 0 rfl rfl 2 (by decide) (hts _ kw_66) (fun _ h9 => h9) rfl (by decide +kernel) rfl rfl (Nat.le_of_ble_eq_true rfl) d_Rd_takeSpace_18 (fun H locs hP hD hS => ?_)
    have hP : va_P (dC, dI) ga_cl [(rd, .inr (3, [.ref sa, .int (nI n), .int (nI (pp + 1)), .int nu, .int st, .int mo, .int jo, .int vo, .int (bo_I re)])), (sa, .inl (cI, 120, .inl tx))] H := hP
    have hD : va_D A [(rd, .inr (3, [.ref sa, .int (nI n), .int (nI (pp + 1)), .int nu, .int st, .int mo, .int jo, .int vo, .int (bo_I re)])), (sa, .inl (cI, 120, .inl tx))] := hD
    refine lv_iconst (v := 1) hx hb d_Rd_takeSpace_21 (by decide) ?_
    rw [hQ]
    have q9 : (1 : Int32) = bo_I (rd_sp tx n pp) := by simp [rd_sp, bo_I, *]
    have e9 : ([(rd, .inr (3, [.ref sa, .int (nI n), .int (nI (cond (rd_sp tx n pp) (pp + 1) pp)), .int nu, .int st, .int mo, .int jo, .int vo, .int (bo_I re)])), (sa, .inl (cI, 120, .inl tx))] : va_W) = [(rd, .inr (3, [.ref sa, .int (nI n), .int (nI (pp + 1)), .int nu, .int st, .int mo, .int jo, .int vo, .int (bo_I re)])), (sa, .inl (cI, 120, .inl tx))] := by simp [rd_sp, *]
    exact W.zret (v := 1) hx hb hr rfl (fun t ht hW => ⟨⟨_, (), rfl, q9, by rw [ht, e9]; exact hP, va_K.moved hW.alike hK, by rw [e9]; exact hD⟩, hS.F ht⟩) hS.2.2 d_Rd_takeSpace_22
  · refine lv_iconst (v := 0) hx hb d_Rd_takeSpace_9 (by decide) ?_
    rw [hQ]
    have q9 : (0 : Int32) = bo_I (rd_sp tx n pp) := by simp [rd_sp, bo_I, *]
    have e9 : ([(rd, .inr (3, [.ref sa, .int (nI n), .int (nI (cond (rd_sp tx n pp) (pp + 1) pp)), .int nu, .int st, .int mo, .int jo, .int vo, .int (bo_I re)])), (sa, .inl (cI, 120, .inl tx))] : va_W) = [(rd, .inr (3, [.ref sa, .int (nI n), .int (nI pp), .int nu, .int st, .int mo, .int jo, .int vo, .int (bo_I re)])), (sa, .inl (cI, 120, .inl tx))] := by simp [rd_sp, *]
    exact W.zret (v := 0) hx hb hr rfl (fun t ht hW => ⟨⟨_, (), rfl, q9, by rw [ht, e9]; exact hP, va_K.moved hW.alike hK, by rw [e9]; exact hD⟩, hS.F ht⟩) hS.2.2 d_Rd_takeSpace_10
end
section
/-! the reader's String constants: 0 every, 1 days, 2 weeks, 3 months, 4 skip, 5 joined, 6 volume, 7 restart -/
def sv_txt (i : Nat) : String := match i with
  | 0 => "every"
  | 1 => "days"
  | 2 => "weeks"
  | 3 => "months"
  | 4 => "skip"
  | 5 => "joined"
  | 6 => "volume"
  | _ => "restart"
def sv_ix (i : Nat) : Nat := match i with
  | 0 => 62
  | 1 => 75
  | 2 => 77
  | 3 => 79
  | 4 => 81
  | 5 => 89
  | 6 => 90
  | _ => 91
def sv_byt (i : Nat) : List Int32 := match i with
  | 0 => [101, 118, 101, 114, 121]
  | 1 => [100, 97, 121, 115]
  | 2 => [119, 101, 101, 107, 115]
  | 3 => [109, 111, 110, 116, 104, 115]
  | 4 => [115, 107, 105, 112]
  | 5 => [106, 111, 105, 110, 101, 100]
  | 6 => [118, 111, 108, 117, 109, 101]
  | _ => [114, 101, 115, 116, 97, 114, 116]
def sv_len (i : Nat) : Nat := (sv_byt i).length
def sv_w (i j : Nat) : Int32 := (sv_byt i).getD j 0
theorem sv_len_le (i : Nat) : sv_len i ≤ 7 := by
  unfold sv_len sv_byt
  split <;> simp
theorem sv_w_in (i j : Nat) : ∃ k : Nat, k < 128 ∧ sv_w i j = nI k := by
  have h : ∀ x ∈ sv_byt i, ∃ k : Nat, k < 128 ∧ x = nI k := by
    intro x hx
    refine ⟨x.toNatClampNeg, ?_⟩
    unfold sv_byt at hx
    split at hx <;> (simp only [List.mem_cons, List.not_mem_nil, or_false] at hx; rcases hx with rfl | rfl | rfl | rfl | rfl | rfl | rfl) <;> decide
  unfold sv_w
  rw [List.getD_eq_getElem?_getD]
  cases hh : (sv_byt i)[j]? with
  | none => exact ⟨0, by decide, rfl⟩
  | some x => exact h x (List.mem_of_getElem? hh)
theorem sv_and (i j : Nat) : sv_w i j &&& 255 = sv_w i j := by
  obtain ⟨k, hk, e⟩ := sv_w_in i j
  rw [e, pk_andN (by omega) 8 (by decide), Nat.mod_eq_of_lt (by omega)]
theorem sv_chr (i j : Nat) : ((sv_w i j).toUInt32 % 65536).toInt32 = sv_w i j := by
  obtain ⟨k, hk, e⟩ := sv_w_in i j
  rw [e, pk_char, pk_tn (by omega), Nat.mod_eq_of_lt (by omega)]
theorem sv_nar (i j : Nat) : narrow .char (.int (sv_w i j)) = .int (sv_w i j) := by
  obtain ⟨k, hk, e⟩ := sv_w_in i j
  rw [e]
  exact (pk_charN (by omega)).1
def sv_at (a v L : Nat) (w : Nat → Int32) (A : Nat → Prop) (U : State) (H : Heap) : Prop := va_O "java/lang/String" a A U H ∧ va_OF "java/lang/String" "coder" "B" (.int 0) a A U H ∧ va_OF "java/lang/String" "value" "[B" (.ref v) a A U H ∧ va_T .byte v L (fun j => .int (w j)) A U H
def sv_E (ad av : Nat → Nat) (A : Nat → Prop) (U : State) (H : Heap) : Prop := va_Z "java/lang/String" "COMPACT_STRINGS" "Z" (.int 1) A U H ∧ va_Zq "jdk/internal/util/Preconditions" "SIOOBE_FORMATTER" "Ljava/util/function/BiFunction;" A U H ∧ ∀ i, i < 8 → sv_at (ad i) (av i) (sv_len i) (sv_w i) A U H ∧ vk_R "PatternText$PatternReader" (sv_ix i) (sv_txt i) (ad i) U
theorem sv_E.same {ad av : Nat → Nat} {A : Nat → Prop} {u U : State} {H : Heap} (h : u.vm = U.vm) (hE : sv_E ad av A u H) : sv_E ad av A U H := by
  have hal : u.vm.Alike U.vm := by rw [h]; exact Vm.Alike.refl _
  refine ⟨hE.1.moved hal, hE.2.1.moved hal, fun i hi => ?_⟩
  obtain ⟨⟨h1, h2, h3, h4⟩, h5⟩ := hE.2.2 i hi
  exact ⟨⟨h1.moved hal, h2.moved hal, h3.moved hal, h4.moved hal⟩, vk_R.same h.symm h5⟩
theorem sv_E.at {ad av : Nat → Nat} {A B : Nat → Prop} {s U : State} {H : Heap} {locs : List Loc} (hE : sv_E ad av A s s.heap) (hS : va_S A s.heap H locs) (hAB : ∀ q, B q → A q) (hW : s.WarmedH U.vm) (hU : U.heap = H) : sv_E ad av B U U.heap := by
  rw [hU]
  refine ⟨((hE.1.kept hS.2.1).narrow hAB).moved hW.alike, ((hE.2.1.kept hS.2.1).narrow hAB).moved hW.alike, fun i hi => ?_⟩
  obtain ⟨⟨h1, h2, h3, h4⟩, h5⟩ := hE.2.2 i hi
  exact ⟨⟨((h1.kept hS.2.1).narrow hAB).moved hW.alike, ((h2.kept hS.2.1).narrow hAB).moved hW.alike, ((h3.kept hS.2.1).narrow hAB).moved hW.alike, ((h4.kept hS.2.1).narrow hAB).moved hW.alike⟩, h5.warm hW⟩
abbrev wy_RE (D : va_G) (cl : List vw_C) (ws : va_W) (tys : List (ClassId × FieldType)) (ad av : Nat → Nat) (A : Nat → Prop) (U : State) : Prop := va_P D cl ws U.heap ∧ va_K D cl tys U ∧ ga_N U ∧ sv_E ad av A U U.heap
abbrev wy_ME (D : va_G) (cl : List vw_C) (ws : va_W) (tys : List (ClassId × FieldType)) (sz : Nat) (ad av : Nat → Nat) (U : State) : Prop := U.heap.size = sz ∧ va_P D cl ws U.heap ∧ va_K D cl tys U ∧ ga_N U ∧ sv_E ad av (va_A ws sz) U U.heap ∧ va_D (fun _ => True) ws
theorem wy_RE_blind {D : va_G} {cl : List vw_C} {ws : va_W} {tys : List (ClassId × FieldType)} {ad av : Nat → Nat} {A : Nat → Prop} {vs : List Value} : FrameBlind (va_Pc vs (wy_RE D cl ws tys ad av A)) := fun a U g mk q => by
  obtain ⟨q0, qP, qK, qN, qE⟩ := q
  exact ⟨q0, qP, va_K.moved (u := U) (U := U.calling g mk a) (Vm.Alike.refl U.vm) qK, ga_N.same (u := U) (U := U.calling g mk a) rfl qN, sv_E.same (u := U) (U := U.calling g mk a) rfl qE⟩
theorem wy_ME_blind {D : va_G} {cl : List vw_C} {ws : va_W} {tys : List (ClassId × FieldType)} {sz : Nat} {ad av : Nat → Nat} {vs : List Value} : FrameBlind (va_Pc vs (wy_ME D cl ws tys sz ad av)) := fun a U g mk q => by
  obtain ⟨q0, q1, qP, qK, qN, qE, qD⟩ := q
  exact ⟨q0, q1, qP, va_K.moved (u := U) (U := U.calling g mk a) (Vm.Alike.refl U.vm) qK, ga_N.same (u := U) (U := U.calling g mk a) rfl qN, sv_E.same (u := U) (U := U.calling g mk a) rfl qE, qD⟩
section SV
variable {s : State} {H : Heap} {locs : List Loc} {D : va_G} {cl : List vw_C} {A : Nat → Prop} {tys : List (ClassId × FieldType)} {ws : va_W} {ad av : Nat → Nat}
theorem wy_preSE {vs : List Value} (hP : va_P D cl ws H) (hK : va_K D cl tys s) (hN : ga_N s) (hE : sv_E ad av A s s.heap) (hS : va_S A s.heap H locs) : PreS s H (va_Pc vs (wy_RE D cl ws tys ad av A)) vs :=
  ⟨wy_RE_blind, fun U hU hW => ⟨rfl, by rw [hU]; exact hP, va_K.moved hW.alike hK, hN.warm hW, hE.at hS (fun _ h => h) hW hU⟩⟩
theorem wy_preTE {vs : List Value} (i : Nat) (hi : i < 8) (hP : va_P D cl ws H) (hK : va_K D cl tys s) (hN : ga_N s) (hE : sv_E ad av A s s.heap) (hS : va_S A s.heap H locs) : PreV s H "java/lang/String" (ad i) (va_Pc (.ref (ad i) :: vs) (wy_RE D cl ws tys ad av A)) vs :=
  ⟨wy_RE_blind, by
    obtain ⟨cell, h1, h2, h3, -⟩ := (hE.2.2 i hi).1.1.kept hS.2.1
    exact ⟨cell, h1, h2, h3⟩, fun U hU hW => ⟨rfl, by rw [hU]; exact hP, va_K.moved hW.alike hK, hN.warm hW, hE.at hS (fun _ h => h) hW hU⟩⟩
theorem wy_mreVE {vs : List Value} {B : Nat → Prop} {C : String} {b ci : Nat} {q : vw_C} {fs : List Value} (q0 : Nat) (hP : va_P D cl ws H) (hK : va_K D cl tys s) (hN : ga_N s) (hD : va_D B ws) (hE : sv_E ad av A s s.heap) (hS : va_S A s.heap H locs) (hF : ∀ q, va_A ws H.size q → A q) (hc : cl[ci]? = some q) (hC : q.1 = C) (he : ws[q0]? = some (b, .inr (ci, fs))) : PreV s H C b (va_Pc (.ref b :: vs) (wy_ME D cl ws tys H.size ad av)) vs :=
  ⟨wy_ME_blind, by subst hC; exact va_recv hK hP hc he, fun U hU hW => ⟨rfl, by rw [hU], by rw [hU]; exact hP, va_K.moved hW.alike hK, hN.warm hW, hE.at hS hF hW hU, hD.weaken (fun _ _ _ _ => trivial)⟩⟩
end SV
end
section
set_option maxHeartbeats 4000000 in
set_option maxRecDepth 100000 in
theorem c_Js_coder (l : Launch) (dC : Nat → ClassId) (dI : Nat → Nat → Nat) (ad : Nat → Nat) (av : Nat → Nat) (A : Nat → Prop) (i : Nat) (hi : i < 8) : Met l y_Js_coder w_Js_coder ({ frames := 0, cells := 0, slots := 0, locals := 0 }) (va_Pc [.ref (ad i)] (wy_RE (dC, dI) ga_cl [] [] ad av A)) (vp_Si (fun r => r = 0)) 0 0 (fun _ => False) := by
  refine Met.ofW (cc := b_Js_coder) (maxL := 1) (ret := (some .byte)) (by decide) rfl ?_
  intro p e s m args below meth c s₁ B hml hv
  obtain ⟨rfl, hP, hK, hN, hE⟩ := hv
  have hx := B.exec
  have hb := B.bytes
  have hr := B.returns
  have hts : ∀ w ∈ ga_tbl, w.before _ s = true := fun w h => atoms_spec (ws := w_Js_coder) B.pre w (List.mem_cons_of_mem _ h)
  have hown : s.vm.findClass "java/lang/String" = some m.cls := findClass_of_methodNamed B.named
  have hlocks := B.notSynchronized
  have hS : va_S A s.heap s.heap [] := va_S.rf
  have hl := lv_entry ([.ref (ad i)]) (n := 1) (Nat.le_of_ble_eq_true rfl)
  rw [lg_entry_eq]
  generalize (lg_sl ([.ref (ad i)]) ++ List.replicate (1 - (lg_sl ([.ref (ad i)])).length) Slot.unset).toArray = ls at hl ⊢
  have hl : lv_has ls 1 [(0, .ref (ad i))] := hl
  refine va_gets hx hb hE.1 hS hown (hts _ kw_207) (fun _ h9 => h9) d_Js_coder_0 ?_
  refine lv_if_eq (tgt := 13) hx hb d_Js_coder_3 (by decide) (fun z9 => absurd z9 (by decide)) (fun _ => ?_)
  refine lv_aload_n hx hb d_Js_coder_6 rfl (lv_at hl 0 rfl) ?_
  refine vk_getf hx hb (hE.2.2 i hi).1.2.1 hS hown (hts _ kw_785) (fun _ h9 => h9) d_Js_coder_7 ?_
  refine lv_goto (tgt := 14) hx hb d_Js_coder_10 (by decide) ?_
  have q9 : (0 : Int32) = 0 := by rfl
  exact W.zret (v := 0) hx hb hr rfl (fun t ht _ => ⟨_, rfl, q9, ht⟩) (fun _ h9 => by cases h9) d_Js_coder_14

set_option maxHeartbeats 4000000 in
set_option maxRecDepth 100000 in
theorem c_Js_length (l : Launch) (dC : Nat → ClassId) (dI : Nat → Nat → Nat) (ad : Nat → Nat) (av : Nat → Nat) (A : Nat → Prop) (i : Nat) (hi : i < 8) : Met l y_Js_length w_Js_length ({ frames := 1, cells := 0, slots := 0, locals := 20 }) (va_Pc [.ref (ad i)] (wy_RE (dC, dI) ga_cl [] [] ad av A)) (vp_Si (fun r => r = nI (sv_len i))) 0 0 (fun _ => False) := by
  refine Met.ofW (cc := b_Js_length) (maxL := 1) (ret := (some .int)) (by decide) rfl ?_
  intro p e s m args below meth c s₁ B hml hv
  obtain ⟨rfl, hP, hK, hN, hE⟩ := hv
  have hx := B.exec
  have hb := B.bytes
  have hr := B.returns
  have hts : ∀ w ∈ ga_tbl, w.before _ s = true := fun w h => atoms_spec (ws := w_Js_length) B.pre w (List.mem_cons_of_mem _ h)
  have hown : s.vm.findClass "java/lang/String" = some m.cls := findClass_of_methodNamed B.named
  have hlocks := B.notSynchronized
  have hS : va_S A s.heap s.heap [] := va_S.rf
  have hl := lv_entry ([.ref (ad i)]) (n := 1) (Nat.le_of_ble_eq_true rfl)
  rw [lg_entry_eq]
  generalize (lg_sl ([.ref (ad i)]) ++ List.replicate (1 - (lg_sl ([.ref (ad i)])).length) Slot.unset).toArray = ls at hl ⊢
  have hl : lv_has ls 1 [(0, .ref (ad i))] := hl
  refine lv_aload_n hx hb d_Js_length_0 rfl (lv_at hl 0 rfl) ?_
  refine vk_getf hx hb (hE.2.2 i hi).1.2.2.1 hS hown (hts _ kw_784) (fun _ h9 => h9) d_Js_length_1 ?_
  refine va_tlen (v := nI (sv_len i)) hx hb (hE.2.2 i hi).1.2.2.2 hS rfl d_Js_length_4 ?_
  refine lv_aload_n hx hb d_Js_length_5 rfl (lv_at hl 0 rfl) ?_
  refine vp_callSi (va_runV (As := []) (rest := [.int (nI (sv_len i))]) ⟨hx, hb, hml, hown, hts⟩ (c_Js_coder l dC dI ad av A i (hi)) (cwV 0 hts (ga_V kw_203 kw_204 kw_205 kw_39 (ga_in kw_206)) rfl rfl rfl (by decide +kernel) ⟨Nat.le_of_ble_eq_true rfl, Nat.le_of_ble_eq_true rfl⟩) (wy_preTE i (hi) (hP.sub (ws' := []) [] rfl) (hK.sub (tys' := []) [] rfl) hN hE hS) rfl rfl hl.1 rfl (lv_room (Nat.le_of_ble_eq_true rfl)) d_Js_length_6 ⟨Nat.le_of_ble_eq_true rfl, Nat.le_of_ble_eq_true rfl⟩).run (fun r_6 h_6 => ?_)
  subst h_6
  refine lv_ishr hx hb d_Js_length_9 ?_
  refine wy_cvi (y := nI (sv_len i)) (sb_shr0 _) ?_
  have q9 : (nI (sv_len i) : Int32) = nI (sv_len i) := by rfl
  exact W.iret (v := nI (sv_len i)) hx hb hr (fun t ht _ => ⟨_, rfl, q9, ht⟩) (fun _ h9 => by cases h9) d_Js_length_10

set_option maxHeartbeats 4000000 in
set_option maxRecDepth 100000 in
theorem c_Js_isLatin1 (l : Launch) (dC : Nat → ClassId) (dI : Nat → Nat → Nat) (ad : Nat → Nat) (av : Nat → Nat) (A : Nat → Prop) (i : Nat) (hi : i < 8) : Met l y_Js_isLatin1 w_Js_isLatin1 ({ frames := 0, cells := 0, slots := 0, locals := 0 }) (va_Pc [.ref (ad i)] (wy_RE (dC, dI) ga_cl [] [] ad av A)) (vp_Si (fun r => r = bo_I true)) 0 0 (fun _ => False) := by
  refine Met.ofW (cc := b_Js_isLatin1) (maxL := 1) (ret := (some .boolean)) (by decide) rfl ?_
  intro p e s m args below meth c s₁ B hml hv
  obtain ⟨rfl, hP, hK, hN, hE⟩ := hv
  have hx := B.exec
  have hb := B.bytes
  have hr := B.returns
  have hts : ∀ w ∈ ga_tbl, w.before _ s = true := fun w h => atoms_spec (ws := w_Js_isLatin1) B.pre w (List.mem_cons_of_mem _ h)
  have hown : s.vm.findClass "java/lang/String" = some m.cls := findClass_of_methodNamed B.named
  have hlocks := B.notSynchronized
  have hS : va_S A s.heap s.heap [] := va_S.rf
  have hl := lv_entry ([.ref (ad i)]) (n := 1) (Nat.le_of_ble_eq_true rfl)
  rw [lg_entry_eq]
  generalize (lg_sl ([.ref (ad i)]) ++ List.replicate (1 - (lg_sl ([.ref (ad i)])).length) Slot.unset).toArray = ls at hl ⊢
  have hl : lv_has ls 1 [(0, .ref (ad i))] := hl
  refine va_gets hx hb hE.1 hS hown (hts _ kw_207) (fun _ h9 => h9) d_Js_isLatin1_0 ?_
  refine lv_if_eq (tgt := 17) hx hb d_Js_isLatin1_3 (by decide) (fun z9 => absurd z9 (by decide)) (fun _ => ?_)
  refine lv_aload_n hx hb d_Js_isLatin1_6 rfl (lv_at hl 0 rfl) ?_
  refine vk_getf hx hb (hE.2.2 i hi).1.2.1 hS hown (hts _ kw_785) (fun _ h9 => h9) d_Js_isLatin1_7 ?_
  refine lv_if_ne (tgt := 17) hx hb d_Js_isLatin1_10 (by decide) (fun z9 => absurd z9 (by decide)) (fun _ => ?_)
  refine lv_iconst (v := 1) hx hb d_Js_isLatin1_13 (by decide) ?_
  refine lv_goto (tgt := 18) hx hb d_Js_isLatin1_14 (by decide) ?_
  have q9 : (1 : Int32) = bo_I true := by rfl
  exact W.zret (v := 1) hx hb hr rfl (fun t ht _ => ⟨_, rfl, q9, ht⟩) (fun _ h9 => by cases h9) d_Js_isLatin1_18

set_option maxHeartbeats 4000000 in
set_option maxRecDepth 100000 in
theorem c_Jp_check_n (l : Launch) (dC : Nat → ClassId) (dI : Nat → Nat → Nat) (ad : Nat → Nat) (av : Nat → Nat) (A : Nat → Prop) (k : Nat) (n : Nat) (hk : k < n) (hn : n < 2 ^ 31) : Met l y_Jp_checkIndex w_Jp_checkIndex ({ frames := 0, cells := 0, slots := 0, locals := 0 }) (va_Pc [.int (nI k), .int (nI n), .null] (wy_RE (dC, dI) ga_cl [] [] ad av A)) (vp_Si (fun r => r = nI k)) 0 0 (fun _ => False) := by
  refine Met.ofW (cc := b_Jp_checkIndex) (maxL := 3) (ret := (some .int)) (by decide) rfl ?_
  intro p e s m args below meth c s₁ B hml hv
  obtain ⟨rfl, hP, hK, hN, hE⟩ := hv
  have hx := B.exec
  have hb := B.bytes
  have hr := B.returns
  have hts : ∀ w ∈ ga_tbl, w.before _ s = true := fun w h => atoms_spec (ws := w_Jp_checkIndex) B.pre w (List.mem_cons_of_mem _ h)
  have hown : s.vm.findClass "jdk/internal/util/Preconditions" = some m.cls := findClass_of_methodNamed B.named
  have hlocks := B.notSynchronized
  have hS : va_S A s.heap s.heap [] := va_S.rf
  have hl := lv_entry ([.int (nI k), .int (nI n), .null]) (n := 3) (Nat.le_of_ble_eq_true rfl)
  rw [lg_entry_eq]
  generalize (lg_sl ([.int (nI k), .int (nI n), .null]) ++ List.replicate (3 - (lg_sl ([.int (nI k), .int (nI n), .null])).length) Slot.unset).toArray = ls at hl ⊢
  have hl : lv_has ls 3 [(0, .int (nI k)), (1, .int (nI n)), (2, .null)] := hl
  refine lv_iload_n hx hb d_Jp_checkIndex_0 rfl (lv_at hl 0 rfl) ?_
  refine wy_ifltN (tgt := 9) hx hb k (by omega) d_Jp_checkIndex_1 (by decide) ?_
  refine lv_iload_n hx hb d_Jp_checkIndex_4 rfl (lv_at hl 0 rfl) ?_
  refine lv_iload_n hx hb d_Jp_checkIndex_5 rfl (lv_at hl 1 rfl) ?_
  refine wy_icmp_lt (tgt := 16) hx hb k n (by omega) (by omega) d_Jp_checkIndex_6 (by decide) (fun c_6 => ?_) (fun c_6 => ?_)
  · refine lv_iload_n hx hb d_Jp_checkIndex_16 rfl (lv_at hl 0 rfl) ?_
    have q9 : (nI k : Int32) = nI k := by rfl
    exact W.iret (v := nI k) hx hb hr (fun t ht _ => ⟨_, rfl, q9, ht⟩) (fun _ h9 => by cases h9) d_Jp_checkIndex_17
  · exact absurd hk (by omega)

set_option maxHeartbeats 4000000 in
set_option maxRecDepth 100000 in
theorem c_Jp_check_s (l : Launch) (dC : Nat → ClassId) (dI : Nat → Nat → Nat) (ad : Nat → Nat) (av : Nat → Nat) (A : Nat → Prop) (k : Nat) (n : Nat) (zz : Nat) (hk : k < n) (hn : n < 2 ^ 31) : Met l y_Jp_checkIndex w_Jp_checkIndex ({ frames := 0, cells := 0, slots := 0, locals := 0 }) (va_Pc [.int (nI k), .int (nI n), .ref zz] (wy_RE (dC, dI) ga_cl [] [] ad av A)) (vp_Si (fun r => r = nI k)) 0 0 (fun _ => False) := by
  refine Met.ofW (cc := b_Jp_checkIndex) (maxL := 3) (ret := (some .int)) (by decide) rfl ?_
  intro p e s m args below meth c s₁ B hml hv
  obtain ⟨rfl, hP, hK, hN, hE⟩ := hv
  have hx := B.exec
  have hb := B.bytes
  have hr := B.returns
  have hts : ∀ w ∈ ga_tbl, w.before _ s = true := fun w h => atoms_spec (ws := w_Jp_checkIndex) B.pre w (List.mem_cons_of_mem _ h)
  have hown : s.vm.findClass "jdk/internal/util/Preconditions" = some m.cls := findClass_of_methodNamed B.named
  have hlocks := B.notSynchronized
  have hS : va_S A s.heap s.heap [] := va_S.rf
  have hl := lv_entry ([.int (nI k), .int (nI n), .ref zz]) (n := 3) (Nat.le_of_ble_eq_true rfl)
  rw [lg_entry_eq]
  generalize (lg_sl ([.int (nI k), .int (nI n), .ref zz]) ++ List.replicate (3 - (lg_sl ([.int (nI k), .int (nI n), .ref zz])).length) Slot.unset).toArray = ls at hl ⊢
  have hl : lv_has ls 3 [(0, .int (nI k)), (1, .int (nI n)), (2, .ref zz)] := hl
  refine lv_iload_n hx hb d_Jp_checkIndex_0 rfl (lv_at hl 0 rfl) ?_
  refine wy_ifltN (tgt := 9) hx hb k (by omega) d_Jp_checkIndex_1 (by decide) ?_
  refine lv_iload_n hx hb d_Jp_checkIndex_4 rfl (lv_at hl 0 rfl) ?_
  refine lv_iload_n hx hb d_Jp_checkIndex_5 rfl (lv_at hl 1 rfl) ?_
  refine wy_icmp_lt (tgt := 16) hx hb k n (by omega) (by omega) d_Jp_checkIndex_6 (by decide) (fun c_6 => ?_) (fun c_6 => ?_)
  · refine lv_iload_n hx hb d_Jp_checkIndex_16 rfl (lv_at hl 0 rfl) ?_
    have q9 : (nI k : Int32) = nI k := by rfl
    exact W.iret (v := nI k) hx hb hr (fun t ht _ => ⟨_, rfl, q9, ht⟩) (fun _ h9 => by cases h9) d_Jp_checkIndex_17
  · exact absurd hk (by omega)

set_option maxHeartbeats 4000000 in
set_option maxRecDepth 100000 in
theorem c_Js_checkIndex (l : Launch) (dC : Nat → ClassId) (dI : Nat → Nat → Nat) (ad : Nat → Nat) (av : Nat → Nat) (A : Nat → Prop) (k : Nat) (n : Nat) (hk : k < n) (hn : n < 2 ^ 31) : Met l y_Js_checkIndex w_Js_checkIndex ({ frames := 1, cells := 0, slots := 0, locals := 22 }) (va_Pc [.int (nI k), .int (nI n)] (wy_RE (dC, dI) ga_cl [] [] ad av A)) (va_Sv (fun _ => True)) 0 0 (fun _ => False) := by
  refine Met.ofW (cc := b_Js_checkIndex) (maxL := 2) (ret := none) (by decide) rfl ?_
  intro p e s m args below meth c s₁ B hml hv
  obtain ⟨rfl, hP, hK, hN, hE⟩ := hv
  have hx := B.exec
  have hb := B.bytes
  have hr := B.returns
  have hts : ∀ w ∈ ga_tbl, w.before _ s = true := fun w h => atoms_spec (ws := w_Js_checkIndex) B.pre w (List.mem_cons_of_mem _ h)
  have hown : s.vm.findClass "java/lang/String" = some m.cls := findClass_of_methodNamed B.named
  have hlocks := B.notSynchronized
  have hS : va_S A s.heap s.heap [] := va_S.rf
  have hl := lv_entry ([.int (nI k), .int (nI n)]) (n := 2) (Nat.le_of_ble_eq_true rfl)
  rw [lg_entry_eq]
  generalize (lg_sl ([.int (nI k), .int (nI n)]) ++ List.replicate (2 - (lg_sl ([.int (nI k), .int (nI n)])).length) Slot.unset).toArray = ls at hl ⊢
  have hl : lv_has ls 2 [(0, .int (nI k)), (1, .int (nI n))] := hl
  refine lv_iload_n hx hb d_Js_checkIndex_0 rfl (lv_at hl 0 rfl) ?_
  refine lv_iload_n hx hb d_Js_checkIndex_1 rfl (lv_at hl 1 rfl) ?_
  rcases hE.2.1 with hz_2 | ⟨zt, hz_2⟩
  · refine va_gets hx hb hz_2 hS hown (hts _ kw_230) (fun _ h9 => h9) d_Js_checkIndex_2 ?_
    refine vp_callSi (va_runS (As := [.int (nI k), .int (nI n), .null]) (rest := []) ⟨hx, hb, hml, hown, hts⟩ (c_Jp_check_n l dC dI ad av A k n (by omega) (by omega)) (va_cwS 3 hts (ga_T kw_232 kw_233 kw_41 (ga_in kw_234)) rfl rfl rfl (by decide +kernel) ⟨Nat.le_of_ble_eq_true rfl, Nat.le_of_ble_eq_true rfl⟩) (wy_preSE (hP.sub (ws' := []) [] rfl) (hK.sub (tys' := []) [] rfl) hN hE hS) rfl rfl hl.1 rfl (lv_room (Nat.le_of_ble_eq_true rfl)) d_Js_checkIndex_5 ⟨Nat.le_of_ble_eq_true rfl, Nat.le_of_ble_eq_true rfl⟩).run (fun r_5 h_5 => ?_)
    subst h_5
    refine lv_pop hx hb d_Js_checkIndex_8 rfl ?_
    exact W.vret hx hb hr (fun t ht _ => ⟨rfl, trivial, ht⟩) (fun _ h9 => by cases h9) d_Js_checkIndex_9
  · refine va_gets hx hb hz_2 hS hown (hts _ kw_230) (fun _ h9 => h9) d_Js_checkIndex_2 ?_
    refine vp_callSi (va_runS (As := [.int (nI k), .int (nI n), .ref zt]) (rest := []) ⟨hx, hb, hml, hown, hts⟩ (c_Jp_check_s l dC dI ad av A k n zt (by omega) (by omega)) (va_cwS 3 hts (ga_T kw_232 kw_233 kw_41 (ga_in kw_234)) rfl rfl rfl (by decide +kernel) ⟨Nat.le_of_ble_eq_true rfl, Nat.le_of_ble_eq_true rfl⟩) (wy_preSE (hP.sub (ws' := []) [] rfl) (hK.sub (tys' := []) [] rfl) hN hE hS) rfl rfl hl.1 rfl (lv_room (Nat.le_of_ble_eq_true rfl)) d_Js_checkIndex_5 ⟨Nat.le_of_ble_eq_true rfl, Nat.le_of_ble_eq_true rfl⟩).run (fun r_5 h_5 => ?_)
    subst h_5
    refine lv_pop hx hb d_Js_checkIndex_8 rfl ?_
    exact W.vret hx hb hr (fun t ht _ => ⟨rfl, trivial, ht⟩) (fun _ h9 => by cases h9) d_Js_checkIndex_9

set_option maxHeartbeats 4000000 in
set_option maxRecDepth 100000 in
theorem c_Jl_charAt (l : Launch) (dC : Nat → ClassId) (dI : Nat → Nat → Nat) (ad : Nat → Nat) (av : Nat → Nat) (A : Nat → Prop) (i : Nat) (k : Nat) (hi : i < 8) (hk : k < sv_len i) : Met l y_Jl_charAt w_Jl_charAt ({ frames := 2, cells := 0, slots := 0, locals := 43 }) (va_Pc [.ref (av i), .int (nI k)] (wy_RE (dC, dI) ga_cl [] [] ad av A)) (vp_Si (fun r => r = sv_w i k)) 0 0 (fun _ => False) := by
  refine Met.ofW (cc := b_Jl_charAt) (maxL := 2) (ret := (some .char)) (by decide) rfl ?_
  intro p e s m args below meth c s₁ B hml hv
  obtain ⟨rfl, hP, hK, hN, hE⟩ := hv
  have hx := B.exec
  have hb := B.bytes
  have hr := B.returns
  have hts : ∀ w ∈ ga_tbl, w.before _ s = true := fun w h => atoms_spec (ws := w_Jl_charAt) B.pre w (List.mem_cons_of_mem _ h)
  have hown : s.vm.findClass "java/lang/StringLatin1" = some m.cls := findClass_of_methodNamed B.named
  have hlocks := B.notSynchronized
  have hS : va_S A s.heap s.heap [] := va_S.rf
  have hl := lv_entry ([.ref (av i), .int (nI k)]) (n := 2) (Nat.le_of_ble_eq_true rfl)
  rw [lg_entry_eq]
  generalize (lg_sl ([.ref (av i), .int (nI k)]) ++ List.replicate (2 - (lg_sl ([.ref (av i), .int (nI k)])).length) Slot.unset).toArray = ls at hl ⊢
  have hl : lv_has ls 2 [(0, .ref (av i)), (1, .int (nI k))] := hl
  have h7 := sv_len_le i
  refine lv_iload_n hx hb d_Jl_charAt_0 rfl (lv_at hl 1 rfl) ?_
  refine lv_aload_n hx hb d_Jl_charAt_1 rfl (lv_at hl 0 rfl) ?_
  refine va_tlen (v := nI (sv_len i)) hx hb (hE.2.2 i hi).1.2.2.2 hS rfl d_Jl_charAt_2 ?_
  refine va_csv (va_runS (As := [.int (nI k), .int (nI (sv_len i))]) (rest := []) ⟨hx, hb, hml, hown, hts⟩ (c_Js_checkIndex l dC dI ad av A k (sv_len i) (by omega) (by omega)) (va_cwS 2 hts (ga_T kw_227 kw_228 kw_39 (ga_in kw_229)) rfl rfl rfl (by decide +kernel) ⟨Nat.le_of_ble_eq_true rfl, Nat.le_of_ble_eq_true rfl⟩) (wy_preSE (hP.sub (ws' := []) [] rfl) (hK.sub (tys' := []) [] rfl) hN hE hS) rfl rfl hl.1 rfl (lv_room (Nat.le_of_ble_eq_true rfl)) d_Jl_charAt_3 ⟨Nat.le_of_ble_eq_true rfl, Nat.le_of_ble_eq_true rfl⟩).run (fun _ => ?_)
  refine lv_aload_n hx hb d_Jl_charAt_6 rfl (lv_at hl 0 rfl) ?_
  refine lv_iload_n hx hb d_Jl_charAt_7 rfl (lv_at hl 1 rfl) ?_
  refine va_tb (v := .int (sv_w i k)) hx hb (hE.2.2 i hi).1.2.2.2 hS (vp_in_nI (by omega) (by omega)) (by rw [nI_clamp (by omega)]) d_Jl_charAt_8 ?_
  refine lv_sipush (v := 255) hx hb d_Jl_charAt_9 (by decide) ?_
  refine lv_iand hx hb d_Jl_charAt_12 ?_
  refine wy_cvi (y := sv_w i k) (sv_and i k) ?_
  refine lv_i2c (v := sv_w i k) hx hb d_Jl_charAt_13 (sv_chr i k) ?_
  have q9 : (sv_w i k : Int32) = sv_w i k := by rfl
  exact W.zret (v := sv_w i k) hx hb hr (sv_nar i k) (fun t ht _ => ⟨_, rfl, q9, ht⟩) (fun _ h9 => by cases h9) d_Jl_charAt_14

set_option maxHeartbeats 4000000 in
set_option maxRecDepth 100000 in
theorem c_Js_charAt (l : Launch) (dC : Nat → ClassId) (dI : Nat → Nat → Nat) (ad : Nat → Nat) (av : Nat → Nat) (A : Nat → Prop) (i : Nat) (k : Nat) (hi : i < 8) (hk : k < sv_len i) : Met l y_Js_charAt w_Js_charAt ({ frames := 3, cells := 0, slots := 0, locals := 64 }) (va_Pc [.ref (ad i), .int (nI k)] (wy_RE (dC, dI) ga_cl [] [] ad av A)) (vp_Si (fun r => r = sv_w i k)) 0 0 (fun _ => False) := by
  refine Met.ofW (cc := b_Js_charAt) (maxL := 2) (ret := (some .char)) (by decide) rfl ?_
  intro p e s m args below meth c s₁ B hml hv
  obtain ⟨rfl, hP, hK, hN, hE⟩ := hv
  have hx := B.exec
  have hb := B.bytes
  have hr := B.returns
  have hts : ∀ w ∈ ga_tbl, w.before _ s = true := fun w h => atoms_spec (ws := w_Js_charAt) B.pre w (List.mem_cons_of_mem _ h)
  have hown : s.vm.findClass "java/lang/String" = some m.cls := findClass_of_methodNamed B.named
  have hlocks := B.notSynchronized
  have hS : va_S A s.heap s.heap [] := va_S.rf
  have hl := lv_entry ([.ref (ad i), .int (nI k)]) (n := 2) (Nat.le_of_ble_eq_true rfl)
  rw [lg_entry_eq]
  generalize (lg_sl ([.ref (ad i), .int (nI k)]) ++ List.replicate (2 - (lg_sl ([.ref (ad i), .int (nI k)])).length) Slot.unset).toArray = ls at hl ⊢
  have hl : lv_has ls 2 [(0, .ref (ad i)), (1, .int (nI k))] := hl
  have h7 := sv_len_le i
  refine lv_aload_n hx hb d_Js_charAt_0 rfl (lv_at hl 0 rfl) ?_
  refine vp_callSi (va_runV (As := []) (rest := []) ⟨hx, hb, hml, hown, hts⟩ (c_Js_isLatin1 l dC dI ad av A i (hi)) (cwV 0 hts (ga_V kw_220 kw_221 kw_222 kw_39 (ga_in kw_223)) rfl rfl rfl (by decide +kernel) ⟨Nat.le_of_ble_eq_true rfl, Nat.le_of_ble_eq_true rfl⟩) (wy_preTE i (hi) (hP.sub (ws' := []) [] rfl) (hK.sub (tys' := []) [] rfl) hN hE hS) rfl rfl hl.1 rfl (lv_room (Nat.le_of_ble_eq_true rfl)) d_Js_charAt_1 ⟨Nat.le_of_ble_eq_true rfl, Nat.le_of_ble_eq_true rfl⟩).run (fun r_1 h_1 => ?_)
  subst h_1
  refine wy_ifeqB (tgt := 16) hx hb d_Js_charAt_4 (by decide) (fun c_4 => ?_) (fun c_4 => ?_)
  · exact absurd c_4 (by decide)
  · refine lv_aload_n hx hb d_Js_charAt_7 rfl (lv_at hl 0 rfl) ?_
    refine vk_getf hx hb (hE.2.2 i hi).1.2.2.1 hS hown (hts _ kw_784) (fun _ h9 => h9) d_Js_charAt_8 ?_
    refine lv_iload_n hx hb d_Js_charAt_11 rfl (lv_at hl 1 rfl) ?_
    refine vp_callSi (va_runS (As := [.ref (av i), .int (nI k)]) (rest := []) ⟨hx, hb, hml, hown, hts⟩ (c_Jl_charAt l dC dI ad av A i k (hi) (by omega)) (va_cwS 2 hts (ga_T kw_224 kw_225 kw_40 (ga_in kw_226)) rfl rfl rfl (by decide +kernel) ⟨Nat.le_of_ble_eq_true rfl, Nat.le_of_ble_eq_true rfl⟩) (wy_preSE (hP.sub (ws' := []) [] rfl) (hK.sub (tys' := []) [] rfl) hN hE hS) rfl rfl hl.1 rfl (lv_room (Nat.le_of_ble_eq_true rfl)) d_Js_charAt_12 ⟨Nat.le_of_ble_eq_true rfl, Nat.le_of_ble_eq_true rfl⟩).run (fun r_12 h_12 => ?_)
    subst h_12
    have q9 : (sv_w i k : Int32) = sv_w i k := by rfl
    exact W.zret (v := sv_w i k) hx hb hr (sv_nar i k) (fun t ht _ => ⟨_, rfl, q9, ht⟩) (fun _ h9 => by cases h9) d_Js_charAt_15
end
section
set_option maxHeartbeats 4000000 in
set_option maxRecDepth 100000 in
/-- takeWord -/
theorem c_Rd_takeWord (l : Launch) (dC : Nat → ClassId) (dI : Nat → Nat → Nat) (sz : Nat) (ad : Nat → Nat) (av : Nat → Nat) (rd : Nat) (sa : Nat) (cI : ClassId) (tx : Nat → Int32) (n : Nat) (pp : Nat) (nu : Int32) (st : Int32) (mo : Int32) (jo : Int32) (vo : Int32) (re : Bool) (i : Nat) (hn : n ≤ 120) (hp : pp ≤ n) (hi : i < 8) : Met l y_Rd_takeWord w_Rd_takeWord ({ frames := 4, cells := 0, slots := 0, locals := 85 }) (va_Pc [.ref rd, .ref (ad i)] (wy_ME (dC, dI) ga_cl [(rd, .inr (3, [.ref sa, .int (nI n), .int (nI pp), .int nu, .int st, .int mo, .int jo, .int vo, .int (bo_I re)])), (sa, .inl (cI, 120, .inl tx))] [(cI, .int)] sz ad av)) (va_Qi (fun (r : Int32) (_ : Unit) => r = bo_I (rd_word tx n pp (sv_w i) (sv_len i))) (fun _ => wy_N (dC, dI) ga_cl [(cI, .int)] (va_A [(rd, .inr (3, [.ref sa, .int (nI n), .int (nI pp), .int nu, .int st, .int mo, .int jo, .int vo, .int (bo_I re)])), (sa, .inl (cI, 120, .inl tx))] sz) [(rd, .inr (3, [.ref sa, .int (nI n), .int (nI (cond (rd_word tx n pp (sv_w i) (sv_len i)) (pp + sv_len i) pp)), .int nu, .int st, .int mo, .int jo, .int vo, .int (bo_I re)])), (sa, .inl (cI, 120, .inl tx))]) (va_A [(rd, .inr (3, [.ref sa, .int (nI n), .int (nI pp), .int nu, .int st, .int mo, .int jo, .int vo, .int (bo_I re)])), (sa, .inl (cI, 120, .inl tx))] sz)) 0 0 (va_A [(rd, .inr (3, [.ref sa, .int (nI n), .int (nI pp), .int nu, .int st, .int mo, .int jo, .int vo, .int (bo_I re)])), (sa, .inl (cI, 120, .inl tx))] sz) := by
  refine Met.ofW (cc := b_Rd_takeWord) (maxL := 4) (ret := (some .boolean)) (by decide) rfl ?_
  intro p e s m args below meth c s₁ B hml hv
  obtain ⟨rfl, hsz, hP, hK, hN, hE, hD0⟩ := hv
  have hx := B.exec
  have hb := B.bytes
  have hr := B.returns
  have hts : ∀ w ∈ ga_tbl, w.before _ s = true := fun w h => atoms_spec (ws := w_Rd_takeWord) B.pre w (List.mem_cons_of_mem _ h)
  have hown : s.vm.findClass "PatternText$PatternReader" = some m.cls := findClass_of_methodNamed B.named
  have hlocks := B.notSynchronized
  subst hsz
  have hD := hD0.self (sz := s.heap.size)
  generalize hAe : va_A [(rd, .inr (3, [.ref sa, .int (nI n), .int (nI pp), .int nu, .int st, .int mo, .int jo, .int vo, .int (bo_I re)])), (sa, .inl (cI, 120, .inl tx))] s.heap.size = A at hD hE ⊢
  have hA : ∀ q : Nat, s.heap.size ≤ q → A q := fun q h => by rw [← hAe]; exact Or.inr h
  have hS : va_S A s.heap s.heap [] := va_S.rf
  have hl := lv_entry ([.ref rd, .ref (ad i)]) (n := 4) (Nat.le_of_ble_eq_true rfl)
  rw [lg_entry_eq]
  generalize (lg_sl ([.ref rd, .ref (ad i)]) ++ List.replicate (4 - (lg_sl ([.ref rd, .ref (ad i)])).length) Slot.unset).toArray = ls at hl ⊢
  have hl : lv_has ls 4 [(0, .ref rd), (1, .ref (ad i))] := hl
  obtain ⟨Q0, hQ⟩ : ∃ Q0 : State → Prop, Q0 = MQ below (va_Qi (fun (r : Int32) (_ : Unit) => r = bo_I (rd_word tx n pp (sv_w i) (sv_len i))) (fun _ => wy_N (dC, dI) ga_cl [(cI, .int)] A [(rd, .inr (3, [.ref sa, .int (nI n), .int (nI (cond (rd_word tx n pp (sv_w i) (sv_len i)) (pp + sv_len i) pp)), .int nu, .int st, .int mo, .int jo, .int vo, .int (bo_I re)])), (sa, .inl (cI, 120, .inl tx))]) A) ([.ref rd, .ref (ad i)] : List Value).toArray s 0 0 A := ⟨_, rfl⟩
  show W p l e ({ frames := 4, cells := 0, slots := 0, locals := 85 }) s m ([.ref rd, .ref (ad i)] : List Value).toArray below meth c s.heap [] 0 0 (MQ below (va_Qi (fun (r : Int32) (_ : Unit) => r = bo_I (rd_word tx n pp (sv_w i) (sv_len i))) (fun _ => wy_N (dC, dI) ga_cl [(cI, .int)] A [(rd, .inr (3, [.ref sa, .int (nI n), .int (nI (cond (rd_word tx n pp (sv_w i) (sv_len i)) (pp + sv_len i) pp)), .int nu, .int st, .int mo, .int jo, .int vo, .int (bo_I re)])), (sa, .inl (cI, 120, .inl tx))]) A) ([.ref rd, .ref (ad i)] : List Value).toArray s 0 0 A) (F0 m 0 ls [])
  rw [← hQ]
  have h7 := sv_len_le i
  refine lv_aload_n hx hb d_Rd_takeWord_0 rfl (lv_at hl 0 rfl) ?_
  refine va_get (D := (dC, dI)) (ci := 3) (v := .int (nI pp)) (C := "PatternText$PatternReader") (T := F_Rd) (N := 9) hx hb hts iw_Rd hown hK hP 0 rfl rfl 2 (by decide) (hts _ kw_66) (fun _ h9 => h9) rfl d_Rd_takeWord_1 ?_
  refine lv_aload_n hx hb d_Rd_takeWord_4 rfl (lv_at hl 1 rfl) ?_
  refine vp_callSi (va_runV (As := []) (rest := [.int (nI pp)]) ⟨hx, hb, hml, hown, hts⟩ (c_Js_length l dC dI ad av A i (hi)) (cwV 0 hts (ga_V kw_199 kw_200 kw_201 kw_39 (ga_in kw_202)) rfl rfl rfl (by decide +kernel) ⟨Nat.le_of_ble_eq_true rfl, Nat.le_of_ble_eq_true rfl⟩) (wy_preTE i (hi) (hP.sub (ws' := []) [] rfl) (hK.sub (tys' := []) [] rfl) hN hE hS) rfl rfl hl.1 rfl (lv_room (Nat.le_of_ble_eq_true rfl)) d_Rd_takeWord_5 ⟨Nat.le_of_ble_eq_true rfl, Nat.le_of_ble_eq_true rfl⟩).run (fun r_5 h_5 => ?_)
  subst h_5
  refine wy_iadd hx hb pp (sv_len i) d_Rd_takeWord_8 ?_
  refine lv_istore_n (lv' := [(2, .int (nI (pp + (sv_len i)))), (0, .ref rd), (1, .ref (ad i))]) hx hb d_Rd_takeWord_9 rfl hl (by decide) rfl (fun ls hl => ?_)
  refine lv_iload_n hx hb d_Rd_takeWord_10 rfl (lv_at hl 0 rfl) ?_
  refine lv_aload_n hx hb d_Rd_takeWord_11 rfl (lv_at hl 1 rfl) ?_
  refine va_get (D := (dC, dI)) (ci := 3) (v := .int (nI n)) (C := "PatternText$PatternReader") (T := F_Rd) (N := 9) hx hb hts iw_Rd hown hK hP 0 rfl rfl 1 (by decide) (hts _ kw_65) (fun _ h9 => h9) rfl d_Rd_takeWord_12 ?_
  refine wy_icmp_gt (tgt := 29) hx hb (pp + (sv_len i)) n (by omega) (by omega) d_Rd_takeWord_15 (by decide) (fun c_15 => ?_) (fun c_15 => ?_)
  · refine lv_iconst (v := 0) hx hb d_Rd_takeWord_29 (by decide) ?_
    rw [hQ]
    have z9 : rd_word tx n pp (sv_w i) (sv_len i) = false := by simp only [rd_word, decide_eq_false (show ¬ pp + sv_len i ≤ n by omega), Bool.false_and]
    have q9 : (0 : Int32) = bo_I (rd_word tx n pp (sv_w i) (sv_len i)) := by rw [z9]; rfl
    have e9 : ([(rd, .inr (3, [.ref sa, .int (nI n), .int (nI (cond (rd_word tx n pp (sv_w i) (sv_len i)) (pp + sv_len i) pp)), .int nu, .int st, .int mo, .int jo, .int vo, .int (bo_I re)])), (sa, .inl (cI, 120, .inl tx))] : va_W) = [(rd, .inr (3, [.ref sa, .int (nI n), .int (nI pp), .int nu, .int st, .int mo, .int jo, .int vo, .int (bo_I re)])), (sa, .inl (cI, 120, .inl tx))] := by rw [z9] <;> rfl
    exact W.zret (v := 0) hx hb hr rfl (fun t ht hW => ⟨⟨_, (), rfl, q9, by rw [ht, e9]; exact hP, va_K.moved hW.alike hK, by rw [e9]; exact hD⟩, hS.F ht⟩) hS.2.2 d_Rd_takeWord_30
  · refine lv_aload_n hx hb d_Rd_takeWord_18 rfl (lv_at hl 1 rfl) ?_
    refine lv_iload_n hx hb d_Rd_takeWord_19 rfl (lv_at hl 0 rfl) ?_
    refine vp_callSi (va_runV (As := [.int (nI (pp + (sv_len i)))]) (rest := []) ⟨hx, hb, hml, hown, hts⟩ (c_Rd_signAt l dC dI rd sa cI tx n (nI pp) nu st mo jo vo re (pp + (sv_len i)) (by omega) (by omega)) (cwV 1 hts (ga_V kw_209 kw_211 kw_2 kw_35 (ga_in kw_212)) rfl rfl rfl (by decide +kernel) ⟨Nat.le_of_ble_eq_true rfl, Nat.le_of_ble_eq_true rfl⟩) (wy_preV 0 (hP.sub (ws' := [(rd, .inr (3, [.ref sa, .int (nI n), .int (nI pp), .int nu, .int st, .int mo, .int jo, .int vo, .int (bo_I re)])), (sa, .inl (cI, 120, .inl tx))]) [0, 1] rfl) (hK.sub (tys' := [(cI, .int)]) [0] rfl) hN (ci := 3) rfl rfl rfl) rfl rfl hl.1 rfl (lv_room (Nat.le_of_ble_eq_true rfl)) d_Rd_takeWord_20 ⟨Nat.le_of_ble_eq_true rfl, Nat.le_of_ble_eq_true rfl⟩).run (fun r_20 h_20 => ?_)
    subst h_20
    refine vp_callSi (va_runS (As := [.int (rd_sg tx n (pp + (sv_len i)))]) (rest := []) ⟨hx, hb, hml, hown, hts⟩ (c_Rd_isLetter l dC dI (rd_sg tx n (pp + (sv_len i))) ) (cwS 1 hts (ga_S kw_213 kw_214 kw_35 (ga_in kw_215)) rfl rfl rfl (by decide +kernel) ⟨Nat.le_of_ble_eq_true rfl, Nat.le_of_ble_eq_true rfl⟩) (wy_preS (hP.sub (ws' := []) [] rfl) (hK.sub (tys' := []) [] rfl) hN) rfl rfl hl.1 rfl (lv_room (Nat.le_of_ble_eq_true rfl)) d_Rd_takeWord_23 ⟨Nat.le_of_ble_eq_true rfl, Nat.le_of_ble_eq_true rfl⟩).run (fun r_23 h_23 => ?_)
    subst h_23
    refine wy_ifeqB (tgt := 31) hx hb d_Rd_takeWord_26 (by decide) (fun c_26 => ?_) (fun c_26 => ?_)
    · refine lv_iconst (v := 0) hx hb d_Rd_takeWord_31 (by decide) ?_
      refine lv_istore_n (lv' := [(3, .int 0), (2, .int (nI (pp + (sv_len i)))), (0, .ref rd), (1, .ref (ad i))]) hx hb d_Rd_takeWord_32 rfl hl (by decide) rfl (fun ls hl => ?_)
      have loop_33 : ∀ (fu : Nat) (k : Nat), (k ≤ sv_len i) → (∀ j, j < k → rd_sg tx n (pp + j) = sv_w i j) → sv_len i - k < fu → ∀ (H : Heap) (locs : List Loc), va_P (dC, dI) ga_cl [(rd, .inr (3, [.ref sa, .int (nI n), .int (nI pp), .int nu, .int st, .int mo, .int jo, .int vo, .int (bo_I re)])), (sa, .inl (cI, 120, .inl tx))] H → va_D A [(rd, .inr (3, [.ref sa, .int (nI n), .int (nI pp), .int nu, .int st, .int mo, .int jo, .int vo, .int (bo_I re)])), (sa, .inl (cI, 120, .inl tx))] → va_S A s.heap H locs → ∀ (ls : Array Slot), lv_has ls 4 [(0, .ref rd), (1, .ref (ad i)), (2, .int (nI (pp + (sv_len i)))), (3, .int (nI k))] → W p l e ({ frames := 4, cells := 0, slots := 0, locals := 85 }) s m ([.ref rd, .ref (ad i)] : List Value).toArray below meth c H locs 0 0 Q0 (F0 m 33 ls []) := by
        intro fu
        induction fu with
        | zero => intro k hk hq hmu; exact absurd hmu (Nat.not_lt_zero _)
        | succ fu ih_33 =>
          intro k hk hq hmu H locs hP hD hS ls hl
          refine lv_iload_n hx hb d_Rd_takeWord_33 rfl (lv_at hl 3 rfl) ?_
          refine lv_aload_n hx hb d_Rd_takeWord_34 rfl (lv_at hl 1 rfl) ?_
          refine vp_callSi (va_runV (As := []) (rest := [.int (nI k)]) ⟨hx, hb, hml, hown, hts⟩ (c_Js_length l dC dI ad av A i (hi)) (cwV 0 hts (ga_V kw_199 kw_200 kw_201 kw_39 (ga_in kw_202)) rfl rfl rfl (by decide +kernel) ⟨Nat.le_of_ble_eq_true rfl, Nat.le_of_ble_eq_true rfl⟩) (wy_preTE i (hi) (hP.sub (ws' := []) [] rfl) (hK.sub (tys' := []) [] rfl) hN hE hS) rfl rfl hl.1 rfl (lv_room (Nat.le_of_ble_eq_true rfl)) d_Rd_takeWord_35 ⟨Nat.le_of_ble_eq_true rfl, Nat.le_of_ble_eq_true rfl⟩).run (fun r_35 h_35 => ?_)
          subst h_35
          refine wy_icmp_ge (tgt := 67) hx hb k (sv_len i) (by omega) (by omega) d_Rd_takeWord_38 (by decide) (fun c_38 => ?_) (fun c_38 => ?_)
          · refine lv_aload_n hx hb d_Rd_takeWord_67 rfl (lv_at hl 0 rfl) ?_
            refine lv_iload_n hx hb d_Rd_takeWord_68 rfl (lv_at hl 2 rfl) ?_
            refine va_put (D := (dC, dI)) (ci := 3) (v := .int (nI (pp + (sv_len i)))) (ty := .int) (C := "PatternText$PatternReader") (T := F_Rd) (N := 9) hx hb hts iw_Rd t_Rd t_Rd_ok n_Rd hown hK hP hD hS 0 rfl rfl 2 (by decide) (hts _ kw_66) (fun _ h9 => h9) rfl (by decide +kernel) rfl rfl (Nat.le_of_ble_eq_true rfl) d_Rd_takeWord_69 (fun H locs hP hD hS => ?_)
            have hP : va_P (dC, dI) ga_cl [(rd, .inr (3, [.ref sa, .int (nI n), .int (nI (pp + (sv_len i))), .int nu, .int st, .int mo, .int jo, .int vo, .int (bo_I re)])), (sa, .inl (cI, 120, .inl tx))] H := hP
            have hD : va_D A [(rd, .inr (3, [.ref sa, .int (nI n), .int (nI (pp + (sv_len i))), .int nu, .int st, .int mo, .int jo, .int vo, .int (bo_I re)])), (sa, .inl (cI, 120, .inl tx))] := hD
            refine lv_iconst (v := 1) hx hb d_Rd_takeWord_72 (by decide) ?_
            rw [hQ]
            have z9 : rd_word tx n pp (sv_w i) (sv_len i) = true := by simp only [rd_word, rd_eqw, Bool.and_eq_true, decide_eq_true_eq]; exact ⟨c_15, by rw [c_26]; rfl, fun j hj => hq j (by omega)⟩
            have q9 : (1 : Int32) = bo_I (rd_word tx n pp (sv_w i) (sv_len i)) := by rw [z9]; rfl
            have e9 : ([(rd, .inr (3, [.ref sa, .int (nI n), .int (nI (cond (rd_word tx n pp (sv_w i) (sv_len i)) (pp + sv_len i) pp)), .int nu, .int st, .int mo, .int jo, .int vo, .int (bo_I re)])), (sa, .inl (cI, 120, .inl tx))] : va_W) = [(rd, .inr (3, [.ref sa, .int (nI n), .int (nI (pp + (sv_len i))), .int nu, .int st, .int mo, .int jo, .int vo, .int (bo_I re)])), (sa, .inl (cI, 120, .inl tx))] := by rw [z9] <;> rfl
            exact W.zret (v := 1) hx hb hr rfl (fun t ht hW => ⟨⟨_, (), rfl, q9, by rw [ht, e9]; exact hP, va_K.moved hW.alike hK, by rw [e9]; exact hD⟩, hS.F ht⟩) hS.2.2 d_Rd_takeWord_73
          · refine lv_aload_n hx hb d_Rd_takeWord_41 rfl (lv_at hl 0 rfl) ?_
            refine lv_aload_n hx hb d_Rd_takeWord_42 rfl (lv_at hl 0 rfl) ?_
            refine va_get (D := (dC, dI)) (ci := 3) (v := .int (nI pp)) (C := "PatternText$PatternReader") (T := F_Rd) (N := 9) hx hb hts iw_Rd hown hK hP 0 rfl rfl 2 (by decide) (hts _ kw_66) (fun _ h9 => h9) rfl d_Rd_takeWord_43 ?_
            refine lv_iload_n hx hb d_Rd_takeWord_46 rfl (lv_at hl 3 rfl) ?_
            refine wy_iadd hx hb pp k d_Rd_takeWord_47 ?_
            refine vp_callSi (va_runV (As := [.int (nI (pp + k))]) (rest := []) ⟨hx, hb, hml, hown, hts⟩ (c_Rd_signAt l dC dI rd sa cI tx n (nI pp) nu st mo jo vo re (pp + k) (by omega) (by omega)) (cwV 1 hts (ga_V kw_209 kw_211 kw_2 kw_35 (ga_in kw_212)) rfl rfl rfl (by decide +kernel) ⟨Nat.le_of_ble_eq_true rfl, Nat.le_of_ble_eq_true rfl⟩) (wy_preV 0 (hP.sub (ws' := [(rd, .inr (3, [.ref sa, .int (nI n), .int (nI pp), .int nu, .int st, .int mo, .int jo, .int vo, .int (bo_I re)])), (sa, .inl (cI, 120, .inl tx))]) [0, 1] rfl) (hK.sub (tys' := [(cI, .int)]) [0] rfl) hN (ci := 3) rfl rfl rfl) rfl rfl hl.1 rfl (lv_room (Nat.le_of_ble_eq_true rfl)) d_Rd_takeWord_48 ⟨Nat.le_of_ble_eq_true rfl, Nat.le_of_ble_eq_true rfl⟩).run (fun r_48 h_48 => ?_)
            subst h_48
            refine lv_aload_n hx hb d_Rd_takeWord_51 rfl (lv_at hl 1 rfl) ?_
            refine lv_iload_n hx hb d_Rd_takeWord_52 rfl (lv_at hl 3 rfl) ?_
            refine vp_callSi (va_runV (As := [.int (nI k)]) (rest := [.int (rd_sg tx n (pp + k))]) ⟨hx, hb, hml, hown, hts⟩ (c_Js_charAt l dC dI ad av A i k (hi) (by omega)) (cwV 1 hts (ga_V kw_216 kw_217 kw_218 kw_39 (ga_in kw_219)) rfl rfl rfl (by decide +kernel) ⟨Nat.le_of_ble_eq_true rfl, Nat.le_of_ble_eq_true rfl⟩) (wy_preTE i (hi) (hP.sub (ws' := []) [] rfl) (hK.sub (tys' := []) [] rfl) hN hE hS) rfl rfl hl.1 rfl (lv_room (Nat.le_of_ble_eq_true rfl)) d_Rd_takeWord_53 ⟨Nat.le_of_ble_eq_true rfl, Nat.le_of_ble_eq_true rfl⟩).run (fun r_53 h_53 => ?_)
            subst h_53
            refine lv_icmp_eq (tgt := 61) hx hb d_Rd_takeWord_56 (by decide) (fun c_56 => ?_) (fun c_56 => ?_)
            · refine wy_iinc (x := k) (lv' := [(3, .int (nI (k + 1))), (0, .ref rd), (1, .ref (ad i)), (2, .int (nI (pp + (sv_len i))))]) hx hb d_Rd_takeWord_61 hl (k := 3) rfl (by decide) rfl (fun ls hl => ?_)
              refine lv_goto (tgt := 33) hx hb d_Rd_takeWord_64 (by decide) ?_
              exact ih_33 (k + 1) (by omega) (lt_s hq c_56) (by omega) H locs hP hD hS ls (lv_sub hl [1, 2, 3, 0] rfl)
            · refine lv_iconst (v := 0) hx hb d_Rd_takeWord_59 (by decide) ?_
              rw [hQ]
              have z9 : rd_word tx n pp (sv_w i) (sv_len i) = false := by simp only [rd_word, rd_eqw, decide_eq_false (show ¬ ∀ j, j < sv_len i → rd_sg tx n (pp + j) = sv_w i j from fun z => c_56 (z k (by omega))), Bool.and_false]
              have q9 : (0 : Int32) = bo_I (rd_word tx n pp (sv_w i) (sv_len i)) := by rw [z9]; rfl
              have e9 : ([(rd, .inr (3, [.ref sa, .int (nI n), .int (nI (cond (rd_word tx n pp (sv_w i) (sv_len i)) (pp + sv_len i) pp)), .int nu, .int st, .int mo, .int jo, .int vo, .int (bo_I re)])), (sa, .inl (cI, 120, .inl tx))] : va_W) = [(rd, .inr (3, [.ref sa, .int (nI n), .int (nI pp), .int nu, .int st, .int mo, .int jo, .int vo, .int (bo_I re)])), (sa, .inl (cI, 120, .inl tx))] := by rw [z9] <;> rfl
              exact W.zret (v := 0) hx hb hr rfl (fun t ht hW => ⟨⟨_, (), rfl, q9, by rw [ht, e9]; exact hP, va_K.moved hW.alike hK, by rw [e9]; exact hD⟩, hS.F ht⟩) hS.2.2 d_Rd_takeWord_60
      exact loop_33 _ 0 (by omega) (fun j hj => absurd hj (Nat.not_lt_zero _)) (Nat.lt_succ_self _) s.heap ([]) hP hD hS ls (lv_sub hl [2, 3, 1, 0] rfl)
    · refine lv_iconst (v := 0) hx hb d_Rd_takeWord_29 (by decide) ?_
      rw [hQ]
      have z9 : rd_word tx n pp (sv_w i) (sv_len i) = false := by simp only [rd_word, c_26, Bool.not_true, Bool.false_and, Bool.and_false]
      have q9 : (0 : Int32) = bo_I (rd_word tx n pp (sv_w i) (sv_len i)) := by rw [z9]; rfl
      have e9 : ([(rd, .inr (3, [.ref sa, .int (nI n), .int (nI (cond (rd_word tx n pp (sv_w i) (sv_len i)) (pp + sv_len i) pp)), .int nu, .int st, .int mo, .int jo, .int vo, .int (bo_I re)])), (sa, .inl (cI, 120, .inl tx))] : va_W) = [(rd, .inr (3, [.ref sa, .int (nI n), .int (nI pp), .int nu, .int st, .int mo, .int jo, .int vo, .int (bo_I re)])), (sa, .inl (cI, 120, .inl tx))] := by rw [z9] <;> rfl
      exact W.zret (v := 0) hx hb hr rfl (fun t ht hW => ⟨⟨_, (), rfl, q9, by rw [ht, e9]; exact hP, va_K.moved hW.alike hK, by rw [e9]; exact hD⟩, hS.F ht⟩) hS.2.2 d_Rd_takeWord_30

set_option maxHeartbeats 4000000 in
set_option maxRecDepth 100000 in
/-- takeNumber -/
theorem c_Rd_takeNumber (l : Launch) (dC : Nat → ClassId) (dI : Nat → Nat → Nat) (sz : Nat) (rd : Nat) (sa : Nat) (cI : ClassId) (tx : Nat → Int32) (n : Nat) (pp : Nat) (nu : Int32) (st : Int32) (mo : Int32) (jo : Int32) (vo : Int32) (re : Bool) (lo : Nat) (hi : Nat) (hn : n ≤ 120) (hp : pp ≤ n) (hlo : lo < 2 ^ 31) (hhi : hi < 2 ^ 31) : Met l y_Rd_takeNumber w_Rd_takeNumber ({ frames := 2, cells := 0, slots := 0, locals := 41 }) (va_Pc [.ref rd, .int (nI lo), .int (nI hi)] (wy_M (dC, dI) ga_cl [(rd, .inr (3, [.ref sa, .int (nI n), .int (nI pp), .int nu, .int st, .int mo, .int jo, .int vo, .int (bo_I re)])), (sa, .inl (cI, 120, .inl tx))] [(cI, .int)] sz)) (va_Qi (fun (r : Int32) (_ : Unit) => r = bo_I (rd_num tx n lo hi pp)) (fun _ => wy_N (dC, dI) ga_cl [(cI, .int)] (va_A [(rd, .inr (3, [.ref sa, .int (nI n), .int (nI pp), .int nu, .int st, .int mo, .int jo, .int vo, .int (bo_I re)])), (sa, .inl (cI, 120, .inl tx))] sz) [(rd, .inr (3, [.ref sa, .int (nI n), .int (nI (cond (rd_num tx n lo hi pp) (rd_end tx n pp) pp)), .int (cond (rd_num tx n lo hi pp) (nI (rd_val tx n pp)) nu), .int st, .int mo, .int jo, .int vo, .int (bo_I re)])), (sa, .inl (cI, 120, .inl tx))]) (va_A [(rd, .inr (3, [.ref sa, .int (nI n), .int (nI pp), .int nu, .int st, .int mo, .int jo, .int vo, .int (bo_I re)])), (sa, .inl (cI, 120, .inl tx))] sz)) 0 0 (va_A [(rd, .inr (3, [.ref sa, .int (nI n), .int (nI pp), .int nu, .int st, .int mo, .int jo, .int vo, .int (bo_I re)])), (sa, .inl (cI, 120, .inl tx))] sz) := by
  refine Met.ofW (cc := b_Rd_takeNumber) (maxL := 7) (ret := (some .boolean)) (by decide) rfl ?_
  intro p e s m args below meth c s₁ B hml hv
  obtain ⟨rfl, hsz, hP, hK, hN, hD0⟩ := hv
  have hx := B.exec
  have hb := B.bytes
  have hr := B.returns
  have hts : ∀ w ∈ ga_tbl, w.before _ s = true := fun w h => atoms_spec (ws := w_Rd_takeNumber) B.pre w (List.mem_cons_of_mem _ h)
  have hown : s.vm.findClass "PatternText$PatternReader" = some m.cls := findClass_of_methodNamed B.named
  have hlocks := B.notSynchronized
  subst hsz
  have hD := hD0.self (sz := s.heap.size)
  generalize hAe : va_A [(rd, .inr (3, [.ref sa, .int (nI n), .int (nI pp), .int nu, .int st, .int mo, .int jo, .int vo, .int (bo_I re)])), (sa, .inl (cI, 120, .inl tx))] s.heap.size = A at hD ⊢
  have hA : ∀ q : Nat, s.heap.size ≤ q → A q := fun q h => by rw [← hAe]; exact Or.inr h
  have hS : va_S A s.heap s.heap [] := va_S.rf
  have hl := lv_entry ([.ref rd, .int (nI lo), .int (nI hi)]) (n := 7) (Nat.le_of_ble_eq_true rfl)
  rw [lg_entry_eq]
  generalize (lg_sl ([.ref rd, .int (nI lo), .int (nI hi)]) ++ List.replicate (7 - (lg_sl ([.ref rd, .int (nI lo), .int (nI hi)])).length) Slot.unset).toArray = ls at hl ⊢
  have hl : lv_has ls 7 [(0, .ref rd), (1, .int (nI lo)), (2, .int (nI hi))] := hl
  obtain ⟨Q0, hQ⟩ : ∃ Q0 : State → Prop, Q0 = MQ below (va_Qi (fun (r : Int32) (_ : Unit) => r = bo_I (rd_num tx n lo hi pp)) (fun _ => wy_N (dC, dI) ga_cl [(cI, .int)] A [(rd, .inr (3, [.ref sa, .int (nI n), .int (nI (cond (rd_num tx n lo hi pp) (rd_end tx n pp) pp)), .int (cond (rd_num tx n lo hi pp) (nI (rd_val tx n pp)) nu), .int st, .int mo, .int jo, .int vo, .int (bo_I re)])), (sa, .inl (cI, 120, .inl tx))]) A) ([.ref rd, .int (nI lo), .int (nI hi)] : List Value).toArray s 0 0 A := ⟨_, rfl⟩
  show W p l e ({ frames := 2, cells := 0, slots := 0, locals := 41 }) s m ([.ref rd, .int (nI lo), .int (nI hi)] : List Value).toArray below meth c s.heap [] 0 0 (MQ below (va_Qi (fun (r : Int32) (_ : Unit) => r = bo_I (rd_num tx n lo hi pp)) (fun _ => wy_N (dC, dI) ga_cl [(cI, .int)] A [(rd, .inr (3, [.ref sa, .int (nI n), .int (nI (cond (rd_num tx n lo hi pp) (rd_end tx n pp) pp)), .int (cond (rd_num tx n lo hi pp) (nI (rd_val tx n pp)) nu), .int st, .int mo, .int jo, .int vo, .int (bo_I re)])), (sa, .inl (cI, 120, .inl tx))]) A) ([.ref rd, .int (nI lo), .int (nI hi)] : List Value).toArray s 0 0 A) (F0 m 0 ls [])
  rw [← hQ]
  refine lv_aload_n hx hb d_Rd_takeNumber_0 rfl (lv_at hl 0 rfl) ?_
  refine va_get (D := (dC, dI)) (ci := 3) (v := .int (nI pp)) (C := "PatternText$PatternReader") (T := F_Rd) (N := 9) hx hb hts iw_Rd hown hK hP 0 rfl rfl 2 (by decide) (hts _ kw_66) (fun _ h9 => h9) rfl d_Rd_takeNumber_1 ?_
  refine lv_istore_n (lv' := [(3, .int (nI pp)), (0, .ref rd), (1, .int (nI lo)), (2, .int (nI hi))]) hx hb d_Rd_takeNumber_4 rfl hl (by decide) rfl (fun ls hl => ?_)
  refine lv_iconst (v := 0) hx hb d_Rd_takeNumber_5 (by decide) ?_
  refine lv_istore (lv' := [(4, .int 0), (3, .int (nI pp)), (0, .ref rd), (1, .int (nI lo)), (2, .int (nI hi))]) hx hb d_Rd_takeNumber_6 hl (by decide) rfl (fun ls hl => ?_)
  have loop_8 : ∀ (fu : Nat) (ee : Nat) (vv : Nat), (pp ≤ ee) → (ee ≤ n) → (vv ≤ 100) → (rd_dg tx n (n - ee) ee vv = rd_dg tx n (n - pp) pp 0) → n - ee < fu → ∀ (H : Heap) (locs : List Loc), va_P (dC, dI) ga_cl [(rd, .inr (3, [.ref sa, .int (nI n), .int (nI pp), .int nu, .int st, .int mo, .int jo, .int vo, .int (bo_I re)])), (sa, .inl (cI, 120, .inl tx))] H → va_D A [(rd, .inr (3, [.ref sa, .int (nI n), .int (nI pp), .int nu, .int st, .int mo, .int jo, .int vo, .int (bo_I re)])), (sa, .inl (cI, 120, .inl tx))] → va_S A s.heap H locs → ∀ (ls : Array Slot), lv_has ls 7 [(0, .ref rd), (1, .int (nI lo)), (2, .int (nI hi)), (3, .int (nI ee)), (4, .int (nI vv))] → W p l e ({ frames := 2, cells := 0, slots := 0, locals := 41 }) s m ([.ref rd, .int (nI lo), .int (nI hi)] : List Value).toArray below meth c H locs 0 0 Q0 (F0 m 8 ls []) := by
    intro fu
    induction fu with
    | zero => intro ee vv h1 h2 h3 hR hmu; exact absurd hmu (Nat.not_lt_zero _)
    | succ fu ih_8 =>
      intro ee vv h1 h2 h3 hR hmu H locs hP hD hS ls hl
      have join_54 : (rd_dg tx n (n - pp) pp 0 = (ee, vv)) → ∀ (H : Heap) (locs : List Loc), va_P (dC, dI) ga_cl [(rd, .inr (3, [.ref sa, .int (nI n), .int (nI pp), .int nu, .int st, .int mo, .int jo, .int vo, .int (bo_I re)])), (sa, .inl (cI, 120, .inl tx))] H → va_D A [(rd, .inr (3, [.ref sa, .int (nI n), .int (nI pp), .int nu, .int st, .int mo, .int jo, .int vo, .int (bo_I re)])), (sa, .inl (cI, 120, .inl tx))] → va_S A s.heap H locs → ∀ (ls : Array Slot), lv_has ls 7 [(0, .ref rd), (1, .int (nI lo)), (2, .int (nI hi)), (3, .int (nI ee)), (4, .int (nI vv))] → W p l e ({ frames := 2, cells := 0, slots := 0, locals := 41 }) s m ([.ref rd, .int (nI lo), .int (nI hi)] : List Value).toArray below meth c H locs 0 0 Q0 (F0 m 54 ls []) := by
        intro  hX H locs hP hD hS ls hl
        refine lv_iload_n hx hb d_Rd_takeNumber_54 rfl (lv_at hl 3 rfl) ?_
        refine lv_aload_n hx hb d_Rd_takeNumber_55 rfl (lv_at hl 0 rfl) ?_
        refine va_get (D := (dC, dI)) (ci := 3) (v := .int (nI pp)) (C := "PatternText$PatternReader") (T := F_Rd) (N := 9) hx hb hts iw_Rd hown hK hP 0 rfl rfl 2 (by decide) (hts _ kw_66) (fun _ h9 => h9) rfl d_Rd_takeNumber_56 ?_
        refine wy_icmp_ne (tgt := 66) hx hb ee pp (by omega) (by omega) d_Rd_takeNumber_59 (by decide) (fun c_59 => ?_) (fun c_59 => ?_)
        · refine lv_iconst (v := 0) hx hb d_Rd_takeNumber_66 (by decide) ?_
          refine lv_istore (lv' := [(5, .int 0), (0, .ref rd), (1, .int (nI lo)), (2, .int (nI hi)), (3, .int (nI ee)), (4, .int (nI vv))]) hx hb d_Rd_takeNumber_67 hl (by decide) rfl (fun ls hl => ?_)
          refine lv_aload_n hx hb d_Rd_takeNumber_69 rfl (lv_at hl 1 rfl) ?_
          refine vp_callSi (va_runV (As := []) (rest := []) ⟨hx, hb, hml, hown, hts⟩ (c_Rd_signHere l dC dI rd sa cI tx n pp nu st mo jo vo re (by omega) (by omega)) (cwV 0 hts (ga_V kw_258 kw_260 kw_4 kw_35 (ga_in kw_261)) rfl rfl rfl (by decide +kernel) ⟨Nat.le_of_ble_eq_true rfl, Nat.le_of_ble_eq_true rfl⟩) (wy_preV 0 (hP.sub (ws' := [(rd, .inr (3, [.ref sa, .int (nI n), .int (nI pp), .int nu, .int st, .int mo, .int jo, .int vo, .int (bo_I re)])), (sa, .inl (cI, 120, .inl tx))]) [0, 1] rfl) (hK.sub (tys' := [(cI, .int)]) [0] rfl) hN (ci := 3) rfl rfl rfl) rfl rfl hl.1 rfl (lv_room (Nat.le_of_ble_eq_true rfl)) d_Rd_takeNumber_70 ⟨Nat.le_of_ble_eq_true rfl, Nat.le_of_ble_eq_true rfl⟩).run (fun r_70 h_70 => ?_)
          subst h_70
          refine lv_bipush (v := 48) hx hb d_Rd_takeNumber_73 (by decide) ?_
          refine lv_icmp_ne (tgt := 92) hx hb d_Rd_takeNumber_75 (by decide) (fun c_75 => ?_) (fun c_75 => ?_)
          · refine lv_iconst (v := 0) hx hb d_Rd_takeNumber_92 (by decide) ?_
            refine lv_istore (lv' := [(6, .int 0), (5, .int 0), (0, .ref rd), (1, .int (nI lo)), (2, .int (nI hi)), (3, .int (nI ee)), (4, .int (nI vv))]) hx hb d_Rd_takeNumber_93 hl (by decide) rfl (fun ls hl => ?_)
            refine lv_iload hx hb d_Rd_takeNumber_95 (lv_at hl 1 rfl) ?_
            refine lv_if_ne (tgt := 117) hx hb d_Rd_takeNumber_97 (by decide) (fun z9 => absurd z9 (by decide)) (fun _ => ?_)
            refine lv_iload hx hb d_Rd_takeNumber_100 (lv_at hl 0 rfl) ?_
            refine lv_if_ne (tgt := 117) hx hb d_Rd_takeNumber_102 (by decide) (fun z9 => absurd z9 (by decide)) (fun _ => ?_)
            refine lv_iload hx hb d_Rd_takeNumber_105 (lv_at hl 6 rfl) ?_
            refine lv_iload_n hx hb d_Rd_takeNumber_107 rfl (lv_at hl 3 rfl) ?_
            refine wy_icmp_lt (tgt := 117) hx hb vv lo (by omega) (by omega) d_Rd_takeNumber_108 (by decide) (fun c_108 => ?_) (fun c_108 => ?_)
            · refine lv_iconst (v := 0) hx hb d_Rd_takeNumber_117 (by decide) ?_
              rw [hQ]
              have he : rd_end tx n pp = ee := by unfold rd_end; rw [hX]
              have hv : rd_val tx n pp = vv := by unfold rd_val; rw [hX]
              have z9 : rd_num tx n lo hi pp = false := by simp only [rd_num, he, hv]; by_cases hs : rd_sg tx n pp = 48 <;> simp [hs] <;> first | omega | (simp [hs] at * <;> omega) | (simp_all <;> omega)
              have q9 : (0 : Int32) = bo_I (rd_num tx n lo hi pp) := by rw [z9]; rfl
              have e9 : ([(rd, .inr (3, [.ref sa, .int (nI n), .int (nI (cond (rd_num tx n lo hi pp) (rd_end tx n pp) pp)), .int (cond (rd_num tx n lo hi pp) (nI (rd_val tx n pp)) nu), .int st, .int mo, .int jo, .int vo, .int (bo_I re)])), (sa, .inl (cI, 120, .inl tx))] : va_W) = [(rd, .inr (3, [.ref sa, .int (nI n), .int (nI pp), .int nu, .int st, .int mo, .int jo, .int vo, .int (bo_I re)])), (sa, .inl (cI, 120, .inl tx))] := by rw [z9]; rfl
              exact W.zret (v := 0) hx hb hr rfl (fun t ht hW => ⟨⟨_, (), rfl, q9, by rw [ht, e9]; exact hP, va_K.moved hW.alike hK, by rw [e9]; exact hD⟩, hS.F ht⟩) hS.2.2 d_Rd_takeNumber_118
            · refine lv_iload hx hb d_Rd_takeNumber_111 (lv_at hl 6 rfl) ?_
              refine lv_iload_n hx hb d_Rd_takeNumber_113 rfl (lv_at hl 4 rfl) ?_
              refine wy_icmp_le (tgt := 119) hx hb vv hi (by omega) (by omega) d_Rd_takeNumber_114 (by decide) (fun c_114 => ?_) (fun c_114 => ?_)
              · refine lv_aload_n hx hb d_Rd_takeNumber_119 rfl (lv_at hl 2 rfl) ?_
                refine lv_iload hx hb d_Rd_takeNumber_120 (lv_at hl 6 rfl) ?_
                refine va_put (D := (dC, dI)) (ci := 3) (v := .int (nI vv)) (ty := .int) (C := "PatternText$PatternReader") (T := F_Rd) (N := 9) hx hb hts iw_Rd t_Rd t_Rd_ok n_Rd hown hK hP hD hS 0 rfl rfl 3 (by decide) (hts _ kw_68) (fun _ h9 => h9) rfl (by decide +kernel) rfl rfl (Nat.le_of_ble_eq_true rfl) d_Rd_takeNumber_122 (fun H locs hP hD hS => ?_)
                have hP : va_P (dC, dI) ga_cl [(rd, .inr (3, [.ref sa, .int (nI n), .int (nI pp), .int (nI vv), .int st, .int mo, .int jo, .int vo, .int (bo_I re)])), (sa, .inl (cI, 120, .inl tx))] H := hP
                have hD : va_D A [(rd, .inr (3, [.ref sa, .int (nI n), .int (nI pp), .int (nI vv), .int st, .int mo, .int jo, .int vo, .int (bo_I re)])), (sa, .inl (cI, 120, .inl tx))] := hD
                refine lv_aload_n hx hb d_Rd_takeNumber_125 rfl (lv_at hl 2 rfl) ?_
                refine lv_iload_n hx hb d_Rd_takeNumber_126 rfl (lv_at hl 5 rfl) ?_
                refine va_put (D := (dC, dI)) (ci := 3) (v := .int (nI ee)) (ty := .int) (C := "PatternText$PatternReader") (T := F_Rd) (N := 9) hx hb hts iw_Rd t_Rd t_Rd_ok n_Rd hown hK hP hD hS 0 rfl rfl 2 (by decide) (hts _ kw_66) (fun _ h9 => h9) rfl (by decide +kernel) rfl rfl (Nat.le_of_ble_eq_true rfl) d_Rd_takeNumber_127 (fun H locs hP hD hS => ?_)
                have hP : va_P (dC, dI) ga_cl [(rd, .inr (3, [.ref sa, .int (nI n), .int (nI ee), .int (nI vv), .int st, .int mo, .int jo, .int vo, .int (bo_I re)])), (sa, .inl (cI, 120, .inl tx))] H := hP
                have hD : va_D A [(rd, .inr (3, [.ref sa, .int (nI n), .int (nI ee), .int (nI vv), .int st, .int mo, .int jo, .int vo, .int (bo_I re)])), (sa, .inl (cI, 120, .inl tx))] := hD
                refine lv_iconst (v := 1) hx hb d_Rd_takeNumber_130 (by decide) ?_
                rw [hQ]
                have he : rd_end tx n pp = ee := by unfold rd_end; rw [hX]
                have hv : rd_val tx n pp = vv := by unfold rd_val; rw [hX]
                have z9 : rd_num tx n lo hi pp = true := by simp only [rd_num, he, hv]; by_cases hs : rd_sg tx n pp = 48 <;> simp [hs] <;> first | omega | (simp [hs] at * <;> omega) | (simp_all <;> omega)
                have q9 : (1 : Int32) = bo_I (rd_num tx n lo hi pp) := by rw [z9]; rfl
                have e9 : ([(rd, .inr (3, [.ref sa, .int (nI n), .int (nI (cond (rd_num tx n lo hi pp) (rd_end tx n pp) pp)), .int (cond (rd_num tx n lo hi pp) (nI (rd_val tx n pp)) nu), .int st, .int mo, .int jo, .int vo, .int (bo_I re)])), (sa, .inl (cI, 120, .inl tx))] : va_W) = [(rd, .inr (3, [.ref sa, .int (nI n), .int (nI ee), .int (nI vv), .int st, .int mo, .int jo, .int vo, .int (bo_I re)])), (sa, .inl (cI, 120, .inl tx))] := by rw [z9, he, hv]; rfl
                exact W.zret (v := 1) hx hb hr rfl (fun t ht hW => ⟨⟨_, (), rfl, q9, by rw [ht, e9]; exact hP, va_K.moved hW.alike hK, by rw [e9]; exact hD⟩, hS.F ht⟩) hS.2.2 d_Rd_takeNumber_131
              · refine lv_iconst (v := 0) hx hb d_Rd_takeNumber_117 (by decide) ?_
                rw [hQ]
                have he : rd_end tx n pp = ee := by unfold rd_end; rw [hX]
                have hv : rd_val tx n pp = vv := by unfold rd_val; rw [hX]
                have z9 : rd_num tx n lo hi pp = false := by simp only [rd_num, he, hv]; by_cases hs : rd_sg tx n pp = 48 <;> simp [hs] <;> first | omega | (simp [hs] at * <;> omega) | (simp_all <;> omega)
                have q9 : (0 : Int32) = bo_I (rd_num tx n lo hi pp) := by rw [z9]; rfl
                have e9 : ([(rd, .inr (3, [.ref sa, .int (nI n), .int (nI (cond (rd_num tx n lo hi pp) (rd_end tx n pp) pp)), .int (cond (rd_num tx n lo hi pp) (nI (rd_val tx n pp)) nu), .int st, .int mo, .int jo, .int vo, .int (bo_I re)])), (sa, .inl (cI, 120, .inl tx))] : va_W) = [(rd, .inr (3, [.ref sa, .int (nI n), .int (nI pp), .int nu, .int st, .int mo, .int jo, .int vo, .int (bo_I re)])), (sa, .inl (cI, 120, .inl tx))] := by rw [z9]; rfl
                exact W.zret (v := 0) hx hb hr rfl (fun t ht hW => ⟨⟨_, (), rfl, q9, by rw [ht, e9]; exact hP, va_K.moved hW.alike hK, by rw [e9]; exact hD⟩, hS.F ht⟩) hS.2.2 d_Rd_takeNumber_118
          · refine lv_iload_n hx hb d_Rd_takeNumber_78 rfl (lv_at hl 4 rfl) ?_
            refine lv_aload_n hx hb d_Rd_takeNumber_79 rfl (lv_at hl 1 rfl) ?_
            refine va_get (D := (dC, dI)) (ci := 3) (v := .int (nI pp)) (C := "PatternText$PatternReader") (T := F_Rd) (N := 9) hx hb hts iw_Rd hown hK hP 0 rfl rfl 2 (by decide) (hts _ kw_66) (fun _ h9 => h9) rfl d_Rd_takeNumber_80 ?_
            refine wy_isub hx hb ee pp (by omega) d_Rd_takeNumber_83 ?_
            refine lv_iconst (v := 1) hx hb d_Rd_takeNumber_84 (by decide) ?_
            refine wy_icmp_le (tgt := 92) hx hb (ee - pp) 1 (by omega) (by omega) d_Rd_takeNumber_85 (by decide) (fun c_85 => ?_) (fun c_85 => ?_)
            · refine lv_iconst (v := 0) hx hb d_Rd_takeNumber_92 (by decide) ?_
              refine lv_istore (lv' := [(6, .int 0), (5, .int 0), (0, .ref rd), (1, .int (nI lo)), (2, .int (nI hi)), (3, .int (nI ee)), (4, .int (nI vv))]) hx hb d_Rd_takeNumber_93 hl (by decide) rfl (fun ls hl => ?_)
              refine lv_iload hx hb d_Rd_takeNumber_95 (lv_at hl 1 rfl) ?_
              refine lv_if_ne (tgt := 117) hx hb d_Rd_takeNumber_97 (by decide) (fun z9 => absurd z9 (by decide)) (fun _ => ?_)
              refine lv_iload hx hb d_Rd_takeNumber_100 (lv_at hl 0 rfl) ?_
              refine lv_if_ne (tgt := 117) hx hb d_Rd_takeNumber_102 (by decide) (fun z9 => absurd z9 (by decide)) (fun _ => ?_)
              refine lv_iload hx hb d_Rd_takeNumber_105 (lv_at hl 6 rfl) ?_
              refine lv_iload_n hx hb d_Rd_takeNumber_107 rfl (lv_at hl 3 rfl) ?_
              refine wy_icmp_lt (tgt := 117) hx hb vv lo (by omega) (by omega) d_Rd_takeNumber_108 (by decide) (fun c_108 => ?_) (fun c_108 => ?_)
              · refine lv_iconst (v := 0) hx hb d_Rd_takeNumber_117 (by decide) ?_
                rw [hQ]
                have he : rd_end tx n pp = ee := by unfold rd_end; rw [hX]
                have hv : rd_val tx n pp = vv := by unfold rd_val; rw [hX]
                have z9 : rd_num tx n lo hi pp = false := by simp only [rd_num, he, hv]; by_cases hs : rd_sg tx n pp = 48 <;> simp [hs] <;> first | omega | (simp [hs] at * <;> omega) | (simp_all <;> omega)
                have q9 : (0 : Int32) = bo_I (rd_num tx n lo hi pp) := by rw [z9]; rfl
                have e9 : ([(rd, .inr (3, [.ref sa, .int (nI n), .int (nI (cond (rd_num tx n lo hi pp) (rd_end tx n pp) pp)), .int (cond (rd_num tx n lo hi pp) (nI (rd_val tx n pp)) nu), .int st, .int mo, .int jo, .int vo, .int (bo_I re)])), (sa, .inl (cI, 120, .inl tx))] : va_W) = [(rd, .inr (3, [.ref sa, .int (nI n), .int (nI pp), .int nu, .int st, .int mo, .int jo, .int vo, .int (bo_I re)])), (sa, .inl (cI, 120, .inl tx))] := by rw [z9]; rfl
                exact W.zret (v := 0) hx hb hr rfl (fun t ht hW => ⟨⟨_, (), rfl, q9, by rw [ht, e9]; exact hP, va_K.moved hW.alike hK, by rw [e9]; exact hD⟩, hS.F ht⟩) hS.2.2 d_Rd_takeNumber_118
              · refine lv_iload hx hb d_Rd_takeNumber_111 (lv_at hl 6 rfl) ?_
                refine lv_iload_n hx hb d_Rd_takeNumber_113 rfl (lv_at hl 4 rfl) ?_
                refine wy_icmp_le (tgt := 119) hx hb vv hi (by omega) (by omega) d_Rd_takeNumber_114 (by decide) (fun c_114 => ?_) (fun c_114 => ?_)
                · refine lv_aload_n hx hb d_Rd_takeNumber_119 rfl (lv_at hl 2 rfl) ?_
                  refine lv_iload hx hb d_Rd_takeNumber_120 (lv_at hl 6 rfl) ?_
                  refine va_put (D := (dC, dI)) (ci := 3) (v := .int (nI vv)) (ty := .int) (C := "PatternText$PatternReader") (T := F_Rd) (N := 9) hx hb hts iw_Rd t_Rd t_Rd_ok n_Rd hown hK hP hD hS 0 rfl rfl 3 (by decide) (hts _ kw_68) (fun _ h9 => h9) rfl (by decide +kernel) rfl rfl (Nat.le_of_ble_eq_true rfl) d_Rd_takeNumber_122 (fun H locs hP hD hS => ?_)
                  have hP : va_P (dC, dI) ga_cl [(rd, .inr (3, [.ref sa, .int (nI n), .int (nI pp), .int (nI vv), .int st, .int mo, .int jo, .int vo, .int (bo_I re)])), (sa, .inl (cI, 120, .inl tx))] H := hP
                  have hD : va_D A [(rd, .inr (3, [.ref sa, .int (nI n), .int (nI pp), .int (nI vv), .int st, .int mo, .int jo, .int vo, .int (bo_I re)])), (sa, .inl (cI, 120, .inl tx))] := hD
                  refine lv_aload_n hx hb d_Rd_takeNumber_125 rfl (lv_at hl 2 rfl) ?_
                  refine lv_iload_n hx hb d_Rd_takeNumber_126 rfl (lv_at hl 5 rfl) ?_
                  refine va_put (D := (dC, dI)) (ci := 3) (v := .int (nI ee)) (ty := .int) (C := "PatternText$PatternReader") (T := F_Rd) (N := 9) hx hb hts iw_Rd t_Rd t_Rd_ok n_Rd hown hK hP hD hS 0 rfl rfl 2 (by decide) (hts _ kw_66) (fun _ h9 => h9) rfl (by decide +kernel) rfl rfl (Nat.le_of_ble_eq_true rfl) d_Rd_takeNumber_127 (fun H locs hP hD hS => ?_)
                  have hP : va_P (dC, dI) ga_cl [(rd, .inr (3, [.ref sa, .int (nI n), .int (nI ee), .int (nI vv), .int st, .int mo, .int jo, .int vo, .int (bo_I re)])), (sa, .inl (cI, 120, .inl tx))] H := hP
                  have hD : va_D A [(rd, .inr (3, [.ref sa, .int (nI n), .int (nI ee), .int (nI vv), .int st, .int mo, .int jo, .int vo, .int (bo_I re)])), (sa, .inl (cI, 120, .inl tx))] := hD
                  refine lv_iconst (v := 1) hx hb d_Rd_takeNumber_130 (by decide) ?_
                  rw [hQ]
                  have he : rd_end tx n pp = ee := by unfold rd_end; rw [hX]
                  have hv : rd_val tx n pp = vv := by unfold rd_val; rw [hX]
                  have z9 : rd_num tx n lo hi pp = true := by simp only [rd_num, he, hv]; by_cases hs : rd_sg tx n pp = 48 <;> simp [hs] <;> first | omega | (simp [hs] at * <;> omega) | (simp_all <;> omega)
                  have q9 : (1 : Int32) = bo_I (rd_num tx n lo hi pp) := by rw [z9]; rfl
                  have e9 : ([(rd, .inr (3, [.ref sa, .int (nI n), .int (nI (cond (rd_num tx n lo hi pp) (rd_end tx n pp) pp)), .int (cond (rd_num tx n lo hi pp) (nI (rd_val tx n pp)) nu), .int st, .int mo, .int jo, .int vo, .int (bo_I re)])), (sa, .inl (cI, 120, .inl tx))] : va_W) = [(rd, .inr (3, [.ref sa, .int (nI n), .int (nI ee), .int (nI vv), .int st, .int mo, .int jo, .int vo, .int (bo_I re)])), (sa, .inl (cI, 120, .inl tx))] := by rw [z9, he, hv]; rfl
                  exact W.zret (v := 1) hx hb hr rfl (fun t ht hW => ⟨⟨_, (), rfl, q9, by rw [ht, e9]; exact hP, va_K.moved hW.alike hK, by rw [e9]; exact hD⟩, hS.F ht⟩) hS.2.2 d_Rd_takeNumber_131
                · refine lv_iconst (v := 0) hx hb d_Rd_takeNumber_117 (by decide) ?_
                  rw [hQ]
                  have he : rd_end tx n pp = ee := by unfold rd_end; rw [hX]
                  have hv : rd_val tx n pp = vv := by unfold rd_val; rw [hX]
                  have z9 : rd_num tx n lo hi pp = false := by simp only [rd_num, he, hv]; by_cases hs : rd_sg tx n pp = 48 <;> simp [hs] <;> first | omega | (simp [hs] at * <;> omega) | (simp_all <;> omega)
                  have q9 : (0 : Int32) = bo_I (rd_num tx n lo hi pp) := by rw [z9]; rfl
                  have e9 : ([(rd, .inr (3, [.ref sa, .int (nI n), .int (nI (cond (rd_num tx n lo hi pp) (rd_end tx n pp) pp)), .int (cond (rd_num tx n lo hi pp) (nI (rd_val tx n pp)) nu), .int st, .int mo, .int jo, .int vo, .int (bo_I re)])), (sa, .inl (cI, 120, .inl tx))] : va_W) = [(rd, .inr (3, [.ref sa, .int (nI n), .int (nI pp), .int nu, .int st, .int mo, .int jo, .int vo, .int (bo_I re)])), (sa, .inl (cI, 120, .inl tx))] := by rw [z9]; rfl
                  exact W.zret (v := 0) hx hb hr rfl (fun t ht hW => ⟨⟨_, (), rfl, q9, by rw [ht, e9]; exact hP, va_K.moved hW.alike hK, by rw [e9]; exact hD⟩, hS.F ht⟩) hS.2.2 d_Rd_takeNumber_118
            · refine lv_iconst (v := 1) hx hb d_Rd_takeNumber_88 (by decide) ?_
              refine lv_goto (tgt := 93) hx hb d_Rd_takeNumber_89 (by decide) ?_
              refine lv_istore (lv' := [(6, .int 1), (5, .int 0), (0, .ref rd), (1, .int (nI lo)), (2, .int (nI hi)), (3, .int (nI ee)), (4, .int (nI vv))]) hx hb d_Rd_takeNumber_93 hl (by decide) rfl (fun ls hl => ?_)
              refine lv_iload hx hb d_Rd_takeNumber_95 (lv_at hl 1 rfl) ?_
              refine lv_if_ne (tgt := 117) hx hb d_Rd_takeNumber_97 (by decide) (fun z9 => absurd z9 (by decide)) (fun _ => ?_)
              refine lv_iload hx hb d_Rd_takeNumber_100 (lv_at hl 0 rfl) ?_
              refine lv_if_ne (tgt := 117) hx hb d_Rd_takeNumber_102 (by decide) (fun _ => ?_) (fun z9 => absurd z9 (by decide))
              refine lv_iconst (v := 0) hx hb d_Rd_takeNumber_117 (by decide) ?_
              rw [hQ]
              have he : rd_end tx n pp = ee := by unfold rd_end; rw [hX]
              have hv : rd_val tx n pp = vv := by unfold rd_val; rw [hX]
              have z9 : rd_num tx n lo hi pp = false := by simp only [rd_num, he, hv]; by_cases hs : rd_sg tx n pp = 48 <;> simp [hs] <;> first | omega | (simp [hs] at * <;> omega) | (simp_all <;> omega)
              have q9 : (0 : Int32) = bo_I (rd_num tx n lo hi pp) := by rw [z9]; rfl
              have e9 : ([(rd, .inr (3, [.ref sa, .int (nI n), .int (nI (cond (rd_num tx n lo hi pp) (rd_end tx n pp) pp)), .int (cond (rd_num tx n lo hi pp) (nI (rd_val tx n pp)) nu), .int st, .int mo, .int jo, .int vo, .int (bo_I re)])), (sa, .inl (cI, 120, .inl tx))] : va_W) = [(rd, .inr (3, [.ref sa, .int (nI n), .int (nI pp), .int nu, .int st, .int mo, .int jo, .int vo, .int (bo_I re)])), (sa, .inl (cI, 120, .inl tx))] := by rw [z9]; rfl
              exact W.zret (v := 0) hx hb hr rfl (fun t ht hW => ⟨⟨_, (), rfl, q9, by rw [ht, e9]; exact hP, va_K.moved hW.alike hK, by rw [e9]; exact hD⟩, hS.F ht⟩) hS.2.2 d_Rd_takeNumber_118
        · refine lv_iconst (v := 1) hx hb d_Rd_takeNumber_62 (by decide) ?_
          refine lv_goto (tgt := 67) hx hb d_Rd_takeNumber_63 (by decide) ?_
          refine lv_istore (lv' := [(5, .int 1), (0, .ref rd), (1, .int (nI lo)), (2, .int (nI hi)), (3, .int (nI ee)), (4, .int (nI vv))]) hx hb d_Rd_takeNumber_67 hl (by decide) rfl (fun ls hl => ?_)
          refine lv_aload_n hx hb d_Rd_takeNumber_69 rfl (lv_at hl 1 rfl) ?_
          refine vp_callSi (va_runV (As := []) (rest := []) ⟨hx, hb, hml, hown, hts⟩ (c_Rd_signHere l dC dI rd sa cI tx n pp nu st mo jo vo re (by omega) (by omega)) (cwV 0 hts (ga_V kw_258 kw_260 kw_4 kw_35 (ga_in kw_261)) rfl rfl rfl (by decide +kernel) ⟨Nat.le_of_ble_eq_true rfl, Nat.le_of_ble_eq_true rfl⟩) (wy_preV 0 (hP.sub (ws' := [(rd, .inr (3, [.ref sa, .int (nI n), .int (nI pp), .int nu, .int st, .int mo, .int jo, .int vo, .int (bo_I re)])), (sa, .inl (cI, 120, .inl tx))]) [0, 1] rfl) (hK.sub (tys' := [(cI, .int)]) [0] rfl) hN (ci := 3) rfl rfl rfl) rfl rfl hl.1 rfl (lv_room (Nat.le_of_ble_eq_true rfl)) d_Rd_takeNumber_70 ⟨Nat.le_of_ble_eq_true rfl, Nat.le_of_ble_eq_true rfl⟩).run (fun r_70 h_70 => ?_)
          subst h_70
          refine lv_bipush (v := 48) hx hb d_Rd_takeNumber_73 (by decide) ?_
          refine lv_icmp_ne (tgt := 92) hx hb d_Rd_takeNumber_75 (by decide) (fun c_75 => ?_) (fun c_75 => ?_)
          · refine lv_iconst (v := 0) hx hb d_Rd_takeNumber_92 (by decide) ?_
            refine lv_istore (lv' := [(6, .int 0), (5, .int 1), (0, .ref rd), (1, .int (nI lo)), (2, .int (nI hi)), (3, .int (nI ee)), (4, .int (nI vv))]) hx hb d_Rd_takeNumber_93 hl (by decide) rfl (fun ls hl => ?_)
            refine lv_iload hx hb d_Rd_takeNumber_95 (lv_at hl 1 rfl) ?_
            refine lv_if_ne (tgt := 117) hx hb d_Rd_takeNumber_97 (by decide) (fun _ => ?_) (fun z9 => absurd z9 (by decide))
            refine lv_iconst (v := 0) hx hb d_Rd_takeNumber_117 (by decide) ?_
            rw [hQ]
            have he : rd_end tx n pp = ee := by unfold rd_end; rw [hX]
            have hv : rd_val tx n pp = vv := by unfold rd_val; rw [hX]
            have z9 : rd_num tx n lo hi pp = false := by simp only [rd_num, he, hv]; by_cases hs : rd_sg tx n pp = 48 <;> simp [hs] <;> first | omega | (simp [hs] at * <;> omega) | (simp_all <;> omega)
            have q9 : (0 : Int32) = bo_I (rd_num tx n lo hi pp) := by rw [z9]; rfl
            have e9 : ([(rd, .inr (3, [.ref sa, .int (nI n), .int (nI (cond (rd_num tx n lo hi pp) (rd_end tx n pp) pp)), .int (cond (rd_num tx n lo hi pp) (nI (rd_val tx n pp)) nu), .int st, .int mo, .int jo, .int vo, .int (bo_I re)])), (sa, .inl (cI, 120, .inl tx))] : va_W) = [(rd, .inr (3, [.ref sa, .int (nI n), .int (nI pp), .int nu, .int st, .int mo, .int jo, .int vo, .int (bo_I re)])), (sa, .inl (cI, 120, .inl tx))] := by rw [z9]; rfl
            exact W.zret (v := 0) hx hb hr rfl (fun t ht hW => ⟨⟨_, (), rfl, q9, by rw [ht, e9]; exact hP, va_K.moved hW.alike hK, by rw [e9]; exact hD⟩, hS.F ht⟩) hS.2.2 d_Rd_takeNumber_118
          · refine lv_iload_n hx hb d_Rd_takeNumber_78 rfl (lv_at hl 4 rfl) ?_
            refine lv_aload_n hx hb d_Rd_takeNumber_79 rfl (lv_at hl 1 rfl) ?_
            refine va_get (D := (dC, dI)) (ci := 3) (v := .int (nI pp)) (C := "PatternText$PatternReader") (T := F_Rd) (N := 9) hx hb hts iw_Rd hown hK hP 0 rfl rfl 2 (by decide) (hts _ kw_66) (fun _ h9 => h9) rfl d_Rd_takeNumber_80 ?_
            refine wy_isub hx hb ee pp (by omega) d_Rd_takeNumber_83 ?_
            refine lv_iconst (v := 1) hx hb d_Rd_takeNumber_84 (by decide) ?_
            refine wy_icmp_le (tgt := 92) hx hb (ee - pp) 1 (by omega) (by omega) d_Rd_takeNumber_85 (by decide) (fun c_85 => ?_) (fun c_85 => ?_)
            · refine lv_iconst (v := 0) hx hb d_Rd_takeNumber_92 (by decide) ?_
              refine lv_istore (lv' := [(6, .int 0), (5, .int 1), (0, .ref rd), (1, .int (nI lo)), (2, .int (nI hi)), (3, .int (nI ee)), (4, .int (nI vv))]) hx hb d_Rd_takeNumber_93 hl (by decide) rfl (fun ls hl => ?_)
              refine lv_iload hx hb d_Rd_takeNumber_95 (lv_at hl 1 rfl) ?_
              refine lv_if_ne (tgt := 117) hx hb d_Rd_takeNumber_97 (by decide) (fun _ => ?_) (fun z9 => absurd z9 (by decide))
              refine lv_iconst (v := 0) hx hb d_Rd_takeNumber_117 (by decide) ?_
              rw [hQ]
              have he : rd_end tx n pp = ee := by unfold rd_end; rw [hX]
              have hv : rd_val tx n pp = vv := by unfold rd_val; rw [hX]
              have z9 : rd_num tx n lo hi pp = false := by simp only [rd_num, he, hv]; by_cases hs : rd_sg tx n pp = 48 <;> simp [hs] <;> first | omega | (simp [hs] at * <;> omega) | (simp_all <;> omega)
              have q9 : (0 : Int32) = bo_I (rd_num tx n lo hi pp) := by rw [z9]; rfl
              have e9 : ([(rd, .inr (3, [.ref sa, .int (nI n), .int (nI (cond (rd_num tx n lo hi pp) (rd_end tx n pp) pp)), .int (cond (rd_num tx n lo hi pp) (nI (rd_val tx n pp)) nu), .int st, .int mo, .int jo, .int vo, .int (bo_I re)])), (sa, .inl (cI, 120, .inl tx))] : va_W) = [(rd, .inr (3, [.ref sa, .int (nI n), .int (nI pp), .int nu, .int st, .int mo, .int jo, .int vo, .int (bo_I re)])), (sa, .inl (cI, 120, .inl tx))] := by rw [z9]; rfl
              exact W.zret (v := 0) hx hb hr rfl (fun t ht hW => ⟨⟨_, (), rfl, q9, by rw [ht, e9]; exact hP, va_K.moved hW.alike hK, by rw [e9]; exact hD⟩, hS.F ht⟩) hS.2.2 d_Rd_takeNumber_118
            · refine lv_iconst (v := 1) hx hb d_Rd_takeNumber_88 (by decide) ?_
              refine lv_goto (tgt := 93) hx hb d_Rd_takeNumber_89 (by decide) ?_
              refine lv_istore (lv' := [(6, .int 1), (5, .int 1), (0, .ref rd), (1, .int (nI lo)), (2, .int (nI hi)), (3, .int (nI ee)), (4, .int (nI vv))]) hx hb d_Rd_takeNumber_93 hl (by decide) rfl (fun ls hl => ?_)
              refine lv_iload hx hb d_Rd_takeNumber_95 (lv_at hl 1 rfl) ?_
              refine lv_if_ne (tgt := 117) hx hb d_Rd_takeNumber_97 (by decide) (fun _ => ?_) (fun z9 => absurd z9 (by decide))
              refine lv_iconst (v := 0) hx hb d_Rd_takeNumber_117 (by decide) ?_
              rw [hQ]
              have he : rd_end tx n pp = ee := by unfold rd_end; rw [hX]
              have hv : rd_val tx n pp = vv := by unfold rd_val; rw [hX]
              have z9 : rd_num tx n lo hi pp = false := by simp only [rd_num, he, hv]; by_cases hs : rd_sg tx n pp = 48 <;> simp [hs] <;> first | omega | (simp [hs] at * <;> omega) | (simp_all <;> omega)
              have q9 : (0 : Int32) = bo_I (rd_num tx n lo hi pp) := by rw [z9]; rfl
              have e9 : ([(rd, .inr (3, [.ref sa, .int (nI n), .int (nI (cond (rd_num tx n lo hi pp) (rd_end tx n pp) pp)), .int (cond (rd_num tx n lo hi pp) (nI (rd_val tx n pp)) nu), .int st, .int mo, .int jo, .int vo, .int (bo_I re)])), (sa, .inl (cI, 120, .inl tx))] : va_W) = [(rd, .inr (3, [.ref sa, .int (nI n), .int (nI pp), .int nu, .int st, .int mo, .int jo, .int vo, .int (bo_I re)])), (sa, .inl (cI, 120, .inl tx))] := by rw [z9]; rfl
              exact W.zret (v := 0) hx hb hr rfl (fun t ht hW => ⟨⟨_, (), rfl, q9, by rw [ht, e9]; exact hP, va_K.moved hW.alike hK, by rw [e9]; exact hD⟩, hS.F ht⟩) hS.2.2 d_Rd_takeNumber_118
      refine lv_iload_n hx hb d_Rd_takeNumber_8 rfl (lv_at hl 3 rfl) ?_
      refine lv_aload_n hx hb d_Rd_takeNumber_9 rfl (lv_at hl 0 rfl) ?_
      refine va_get (D := (dC, dI)) (ci := 3) (v := .int (nI n)) (C := "PatternText$PatternReader") (T := F_Rd) (N := 9) hx hb hts iw_Rd hown hK hP 0 rfl rfl 1 (by decide) (hts _ kw_65) (fun _ h9 => h9) rfl d_Rd_takeNumber_10 ?_
      refine wy_icmp_ge (tgt := 54) hx hb ee n (by omega) (by omega) d_Rd_takeNumber_13 (by decide) (fun c_13 => ?_) (fun c_13 => ?_)
      · exact join_54 (hR.symm.trans (rd_dg_end (by first | exact Or.inl c_13 | exact Or.inr c_24))) H locs hP hD hS ls (lv_sub hl [0, 1, 2, 3, 4] rfl)
      · refine lv_aload_n hx hb d_Rd_takeNumber_16 rfl (lv_at hl 0 rfl) ?_
        refine lv_iload_n hx hb d_Rd_takeNumber_17 rfl (lv_at hl 3 rfl) ?_
        refine vp_callSi (va_runV (As := [.int (nI ee)]) (rest := []) ⟨hx, hb, hml, hown, hts⟩ (c_Rd_signAt l dC dI rd sa cI tx n (nI pp) nu st mo jo vo re ee (by omega) (by omega)) (cwV 1 hts (ga_V kw_209 kw_211 kw_2 kw_35 (ga_in kw_212)) rfl rfl rfl (by decide +kernel) ⟨Nat.le_of_ble_eq_true rfl, Nat.le_of_ble_eq_true rfl⟩) (wy_preV 0 (hP.sub (ws' := [(rd, .inr (3, [.ref sa, .int (nI n), .int (nI pp), .int nu, .int st, .int mo, .int jo, .int vo, .int (bo_I re)])), (sa, .inl (cI, 120, .inl tx))]) [0, 1] rfl) (hK.sub (tys' := [(cI, .int)]) [0] rfl) hN (ci := 3) rfl rfl rfl) rfl rfl hl.1 rfl (lv_room (Nat.le_of_ble_eq_true rfl)) d_Rd_takeNumber_18 ⟨Nat.le_of_ble_eq_true rfl, Nat.le_of_ble_eq_true rfl⟩).run (fun r_18 h_18 => ?_)
        subst h_18
        refine vp_callSi (va_runS (As := [.int (rd_sg tx n ee)]) (rest := []) ⟨hx, hb, hml, hown, hts⟩ (c_Rd_isDigit l dC dI (rd_sg tx n ee) ) (cwS 1 hts (ga_S kw_266 kw_267 kw_35 (ga_in kw_268)) rfl rfl rfl (by decide +kernel) ⟨Nat.le_of_ble_eq_true rfl, Nat.le_of_ble_eq_true rfl⟩) (wy_preS (hP.sub (ws' := []) [] rfl) (hK.sub (tys' := []) [] rfl) hN) rfl rfl hl.1 rfl (lv_room (Nat.le_of_ble_eq_true rfl)) d_Rd_takeNumber_21 ⟨Nat.le_of_ble_eq_true rfl, Nat.le_of_ble_eq_true rfl⟩).run (fun r_21 h_21 => ?_)
        subst h_21
        refine wy_ifeqB (tgt := 54) hx hb d_Rd_takeNumber_24 (by decide) (fun c_24 => ?_) (fun c_24 => ?_)
        · exact join_54 (hR.symm.trans (rd_dg_end (by first | exact Or.inl c_13 | exact Or.inr c_24))) H locs hP hD hS ls (lv_sub hl [0, 1, 2, 3, 4] rfl)
        · obtain ⟨hd1, hd2⟩ := rd_dv_eq c_24
          refine lv_iload hx hb d_Rd_takeNumber_27 (lv_at hl 4 rfl) ?_
          refine lv_bipush (v := 10) hx hb d_Rd_takeNumber_29 (by decide) ?_
          refine wy_imul hx hb vv 10 d_Rd_takeNumber_31 ?_
          refine lv_aload_n hx hb d_Rd_takeNumber_32 rfl (lv_at hl 0 rfl) ?_
          refine lv_iload_n hx hb d_Rd_takeNumber_33 rfl (lv_at hl 3 rfl) ?_
          refine vp_callSi (va_runV (As := [.int (nI ee)]) (rest := [.int (nI (vv * 10))]) ⟨hx, hb, hml, hown, hts⟩ (c_Rd_signAt l dC dI rd sa cI tx n (nI pp) nu st mo jo vo re ee (by omega) (by omega)) (cwV 1 hts (ga_V kw_209 kw_211 kw_2 kw_35 (ga_in kw_212)) rfl rfl rfl (by decide +kernel) ⟨Nat.le_of_ble_eq_true rfl, Nat.le_of_ble_eq_true rfl⟩) (wy_preV 0 (hP.sub (ws' := [(rd, .inr (3, [.ref sa, .int (nI n), .int (nI pp), .int nu, .int st, .int mo, .int jo, .int vo, .int (bo_I re)])), (sa, .inl (cI, 120, .inl tx))]) [0, 1] rfl) (hK.sub (tys' := [(cI, .int)]) [0] rfl) hN (ci := 3) rfl rfl rfl) rfl rfl hl.1 rfl (lv_room (Nat.le_of_ble_eq_true rfl)) d_Rd_takeNumber_34 ⟨Nat.le_of_ble_eq_true rfl, Nat.le_of_ble_eq_true rfl⟩).run (fun r_34 h_34 => ?_)
          subst h_34
          refine wy_cvi (y := nI (rd_dv (rd_sg tx n ee) + 48)) (hd1) ?_
          refine wy_iadd hx hb (vv * 10) (rd_dv (rd_sg tx n ee) + 48) d_Rd_takeNumber_37 ?_
          refine lv_bipush (v := 48) hx hb d_Rd_takeNumber_38 (by decide) ?_
          refine wy_isub hx hb ((vv * 10) + (rd_dv (rd_sg tx n ee) + 48)) 48 (by omega) d_Rd_takeNumber_40 ?_
          refine wy_cvi (y := nI (vv * 10 + rd_dv (rd_sg tx n ee))) (by congr 1 <;> omega) ?_
          refine lv_bipush (v := 100) hx hb d_Rd_takeNumber_41 (by decide) ?_
          refine va_mmin hx hb (hml.trans hl.1.symm) hown (hts _ kw_269) (hts _ kw_270) (hts _ kw_43) (hts _ kw_271) (Nat.le_of_ble_eq_true rfl) (Nat.le_of_ble_eq_true rfl) (Nat.le_of_ble_eq_true rfl) (Nat.le_of_ble_eq_true rfl) d_Rd_takeNumber_43 ?_
          refine wy_cvi (y := nI (min (vv * 10 + rd_dv (rd_sg tx n ee)) 100)) (rd_min _ (by omega)) ?_
          refine lv_istore (lv' := [(4, .int (nI (min (vv * 10 + rd_dv (rd_sg tx n ee)) 100))), (0, .ref rd), (1, .int (nI lo)), (2, .int (nI hi)), (3, .int (nI ee))]) hx hb d_Rd_takeNumber_46 hl (by decide) rfl (fun ls hl => ?_)
          refine wy_iinc (x := ee) (lv' := [(3, .int (nI (ee + 1))), (4, .int (nI (min (vv * 10 + rd_dv (rd_sg tx n ee)) 100))), (0, .ref rd), (1, .int (nI lo)), (2, .int (nI hi))]) hx hb d_Rd_takeNumber_48 hl (k := 4) rfl (by decide) rfl (fun ls hl => ?_)
          refine lv_goto (tgt := 8) hx hb d_Rd_takeNumber_51 (by decide) ?_
          exact ih_8 (ee + 1) (min (vv * 10 + rd_dv (rd_sg tx n ee)) 100) (by omega) (by omega) (Nat.min_le_right _ _) ((rd_dg_go c_13 c_24).symm.trans hR) (by omega) H locs hP hD hS ls (lv_sub hl [2, 3, 4, 0, 1] rfl)
  exact loop_8 _ pp 0 (by omega) (by omega) (by omega) (rfl) (Nat.lt_succ_self _) s.heap ([]) hP hD hS ls (lv_sub hl [2, 3, 4, 1, 0] rfl)

set_option maxHeartbeats 4000000 in
set_option maxRecDepth 100000 in
/-- takeNextWord -/
theorem c_Rd_takeNextWord (l : Launch) (dC : Nat → ClassId) (dI : Nat → Nat → Nat) (sz : Nat) (ad : Nat → Nat) (av : Nat → Nat) (rd : Nat) (sa : Nat) (cI : ClassId) (tx : Nat → Int32) (n : Nat) (pp : Nat) (nu : Int32) (st : Int32) (mo : Int32) (jo : Int32) (vo : Int32) (re : Bool) (i : Nat) (hn : n ≤ 120) (hp : pp ≤ n) (hi : i < 8) : Met l y_Rd_takeNextWord w_Rd_takeNextWord ({ frames := 5, cells := 0, slots := 0, locals := 108 }) (va_Pc [.ref rd, .ref (ad i)] (wy_ME (dC, dI) ga_cl [(rd, .inr (3, [.ref sa, .int (nI n), .int (nI pp), .int nu, .int st, .int mo, .int jo, .int vo, .int (bo_I re)])), (sa, .inl (cI, 120, .inl tx))] [(cI, .int)] sz ad av)) (va_Qi (fun (r : Int32) (_ : Unit) => r = bo_I (rd_next tx n pp (sv_w i) (sv_len i))) (fun _ => wy_N (dC, dI) ga_cl [(cI, .int)] (va_A [(rd, .inr (3, [.ref sa, .int (nI n), .int (nI pp), .int nu, .int st, .int mo, .int jo, .int vo, .int (bo_I re)])), (sa, .inl (cI, 120, .inl tx))] sz) [(rd, .inr (3, [.ref sa, .int (nI n), .int (nI (cond (rd_next tx n pp (sv_w i) (sv_len i)) (pp + 1 + sv_len i) pp)), .int nu, .int st, .int mo, .int jo, .int vo, .int (bo_I re)])), (sa, .inl (cI, 120, .inl tx))]) (va_A [(rd, .inr (3, [.ref sa, .int (nI n), .int (nI pp), .int nu, .int st, .int mo, .int jo, .int vo, .int (bo_I re)])), (sa, .inl (cI, 120, .inl tx))] sz)) 0 0 (va_A [(rd, .inr (3, [.ref sa, .int (nI n), .int (nI pp), .int nu, .int st, .int mo, .int jo, .int vo, .int (bo_I re)])), (sa, .inl (cI, 120, .inl tx))] sz) := by
  refine Met.ofW (cc := b_Rd_takeNextWord) (maxL := 3) (ret := (some .boolean)) (by decide) rfl ?_
  intro p e s m args below meth c s₁ B hml hv
  obtain ⟨rfl, hsz, hP, hK, hN, hE, hD0⟩ := hv
  have hx := B.exec
  have hb := B.bytes
  have hr := B.returns
  have hts : ∀ w ∈ ga_tbl, w.before _ s = true := fun w h => atoms_spec (ws := w_Rd_takeNextWord) B.pre w (List.mem_cons_of_mem _ h)
  have hown : s.vm.findClass "PatternText$PatternReader" = some m.cls := findClass_of_methodNamed B.named
  have hlocks := B.notSynchronized
  subst hsz
  have hD := hD0.self (sz := s.heap.size)
  generalize hAe : va_A [(rd, .inr (3, [.ref sa, .int (nI n), .int (nI pp), .int nu, .int st, .int mo, .int jo, .int vo, .int (bo_I re)])), (sa, .inl (cI, 120, .inl tx))] s.heap.size = A at hD hE ⊢
  have hA : ∀ q : Nat, s.heap.size ≤ q → A q := fun q h => by rw [← hAe]; exact Or.inr h
  have hS : va_S A s.heap s.heap [] := va_S.rf
  have hl := lv_entry ([.ref rd, .ref (ad i)]) (n := 3) (Nat.le_of_ble_eq_true rfl)
  rw [lg_entry_eq]
  generalize (lg_sl ([.ref rd, .ref (ad i)]) ++ List.replicate (3 - (lg_sl ([.ref rd, .ref (ad i)])).length) Slot.unset).toArray = ls at hl ⊢
  have hl : lv_has ls 3 [(0, .ref rd), (1, .ref (ad i))] := hl
  obtain ⟨Q0, hQ⟩ : ∃ Q0 : State → Prop, Q0 = MQ below (va_Qi (fun (r : Int32) (_ : Unit) => r = bo_I (rd_next tx n pp (sv_w i) (sv_len i))) (fun _ => wy_N (dC, dI) ga_cl [(cI, .int)] A [(rd, .inr (3, [.ref sa, .int (nI n), .int (nI (cond (rd_next tx n pp (sv_w i) (sv_len i)) (pp + 1 + sv_len i) pp)), .int nu, .int st, .int mo, .int jo, .int vo, .int (bo_I re)])), (sa, .inl (cI, 120, .inl tx))]) A) ([.ref rd, .ref (ad i)] : List Value).toArray s 0 0 A := ⟨_, rfl⟩
  show W p l e ({ frames := 5, cells := 0, slots := 0, locals := 108 }) s m ([.ref rd, .ref (ad i)] : List Value).toArray below meth c s.heap [] 0 0 (MQ below (va_Qi (fun (r : Int32) (_ : Unit) => r = bo_I (rd_next tx n pp (sv_w i) (sv_len i))) (fun _ => wy_N (dC, dI) ga_cl [(cI, .int)] A [(rd, .inr (3, [.ref sa, .int (nI n), .int (nI (cond (rd_next tx n pp (sv_w i) (sv_len i)) (pp + 1 + sv_len i) pp)), .int nu, .int st, .int mo, .int jo, .int vo, .int (bo_I re)])), (sa, .inl (cI, 120, .inl tx))]) A) ([.ref rd, .ref (ad i)] : List Value).toArray s 0 0 A) (F0 m 0 ls [])
  rw [← hQ]
  refine lv_aload_n hx hb d_Rd_takeNextWord_0 rfl (lv_at hl 0 rfl) ?_
  refine va_get (D := (dC, dI)) (ci := 3) (v := .int (nI pp)) (C := "PatternText$PatternReader") (T := F_Rd) (N := 9) hx hb hts iw_Rd hown hK hP 0 rfl rfl 2 (by decide) (hts _ kw_66) (fun _ h9 => h9) rfl d_Rd_takeNextWord_1 ?_
  refine lv_istore_n (lv' := [(2, .int (nI pp)), (0, .ref rd), (1, .ref (ad i))]) hx hb d_Rd_takeNextWord_4 rfl hl (by decide) rfl (fun ls hl => ?_)
  refine lv_aload_n hx hb d_Rd_takeNextWord_5 rfl (lv_at hl 1 rfl) ?_
  refine wy_calli (wr := []) (w1 := [(rd, .inr (3, [.ref sa, .int (nI n), .int (nI (cond (rd_sp tx n pp) (pp + 1) pp)), .int nu, .int st, .int mo, .int jo, .int vo, .int (bo_I re)])), (sa, .inl (cI, 120, .inl tx))]) (va_runV (As := []) (rest := []) ⟨hx, hb, hml, hown, hts⟩ (c_Rd_takeSpace l dC dI s.heap.size rd sa cI tx n pp nu st mo jo vo re (by omega) (by omega)) (cwV 0 hts (ga_V kw_254 kw_256 kw_3 kw_35 (ga_in kw_257)) rfl rfl rfl (by decide +kernel) ⟨Nat.le_of_ble_eq_true rfl, Nat.le_of_ble_eq_true rfl⟩) (wy_mreV 0 (hP.sub (ws' := [(rd, .inr (3, [.ref sa, .int (nI n), .int (nI pp), .int nu, .int st, .int mo, .int jo, .int vo, .int (bo_I re)])), (sa, .inl (cI, 120, .inl tx))]) [0, 1] rfl) (hK.sub (tys' := [(cI, .int)]) [0] rfl) hN (hD.sub (ws' := [(rd, .inr (3, [.ref sa, .int (nI n), .int (nI pp), .int nu, .int st, .int mo, .int jo, .int vo, .int (bo_I re)])), (sa, .inl (cI, 120, .inl tx))]) [0, 1] (by decide) rfl) (ci := 3) rfl rfl rfl) rfl rfl hl.1 rfl (lv_room (Nat.le_of_ble_eq_true rfl)) d_Rd_takeNextWord_6 ⟨Nat.le_of_ble_eq_true rfl, Nat.le_of_ble_eq_true rfl⟩) hP hD hS hA [0, 1] [] rfl rfl (by decide) (by decide) (fun H locs hP hD hS => ?_)
  have hP := hP.sub (ws' := [(rd, .inr (3, [.ref sa, .int (nI n), .int (nI (cond (rd_sp tx n pp) (pp + 1) pp)), .int nu, .int st, .int mo, .int jo, .int vo, .int (bo_I re)])), (sa, .inl (cI, 120, .inl tx))]) [0, 1] rfl
  have hD := hD.sub (ws' := [(rd, .inr (3, [.ref sa, .int (nI n), .int (nI (cond (rd_sp tx n pp) (pp + 1) pp)), .int nu, .int st, .int mo, .int jo, .int vo, .int (bo_I re)])), (sa, .inl (cI, 120, .inl tx))]) [0, 1] (by decide) rfl
  rcases hb_6 : rd_sp tx n pp with _ | _
  · rw [hb_6] at hP hD
    have hP : va_P (dC, dI) ga_cl [(rd, .inr (3, [.ref sa, .int (nI n), .int (nI pp), .int nu, .int st, .int mo, .int jo, .int vo, .int (bo_I re)])), (sa, .inl (cI, 120, .inl tx))] H := hP
    have hD : va_D A [(rd, .inr (3, [.ref sa, .int (nI n), .int (nI pp), .int nu, .int st, .int mo, .int jo, .int vo, .int (bo_I re)])), (sa, .inl (cI, 120, .inl tx))] := hD
    refine lv_if_eq (tgt := 22) hx hb d_Rd_takeNextWord_9 (by decide) (fun _ => ?_) (fun z9 => absurd z9 (by decide))
    refine lv_aload_n hx hb d_Rd_takeNextWord_22 rfl (lv_at hl 1 rfl) ?_
    refine lv_iload_n hx hb d_Rd_takeNextWord_23 rfl (lv_at hl 0 rfl) ?_
    refine va_put (D := (dC, dI)) (ci := 3) (v := .int (nI pp)) (ty := .int) (C := "PatternText$PatternReader") (T := F_Rd) (N := 9) hx hb hts iw_Rd t_Rd t_Rd_ok n_Rd hown hK hP hD hS 0 rfl rfl 2 (by decide) (hts _ kw_66) (fun _ h9 => h9) rfl (by decide +kernel) rfl rfl (Nat.le_of_ble_eq_true rfl) d_Rd_takeNextWord_24 (fun H locs hP hD hS => ?_)
    have hP : va_P (dC, dI) ga_cl [(rd, .inr (3, [.ref sa, .int (nI n), .int (nI pp), .int nu, .int st, .int mo, .int jo, .int vo, .int (bo_I re)])), (sa, .inl (cI, 120, .inl tx))] H := hP
    have hD : va_D A [(rd, .inr (3, [.ref sa, .int (nI n), .int (nI pp), .int nu, .int st, .int mo, .int jo, .int vo, .int (bo_I re)])), (sa, .inl (cI, 120, .inl tx))] := hD
    refine lv_iconst (v := 0) hx hb d_Rd_takeNextWord_27 (by decide) ?_
    rw [hQ]
    have z9 : rd_next tx n pp (sv_w i) (sv_len i) = false := by simp [rd_next, *]
    have q9 : (0 : Int32) = bo_I (rd_next tx n pp (sv_w i) (sv_len i)) := by rw [z9]; rfl
    have e9 : ([(rd, .inr (3, [.ref sa, .int (nI n), .int (nI (cond (rd_next tx n pp (sv_w i) (sv_len i)) (pp + 1 + sv_len i) pp)), .int nu, .int st, .int mo, .int jo, .int vo, .int (bo_I re)])), (sa, .inl (cI, 120, .inl tx))] : va_W) = [(rd, .inr (3, [.ref sa, .int (nI n), .int (nI pp), .int nu, .int st, .int mo, .int jo, .int vo, .int (bo_I re)])), (sa, .inl (cI, 120, .inl tx))] := by rw [z9] <;> rfl
    exact W.zret (v := 0) hx hb hr rfl (fun t ht hW => ⟨⟨_, (), rfl, q9, by rw [ht, e9]; exact hP, va_K.moved hW.alike hK, by rw [e9]; exact hD⟩, hS.F ht⟩) hS.2.2 d_Rd_takeNextWord_28
  · rw [hb_6] at hP hD
    have hP : va_P (dC, dI) ga_cl [(rd, .inr (3, [.ref sa, .int (nI n), .int (nI (pp + 1)), .int nu, .int st, .int mo, .int jo, .int vo, .int (bo_I re)])), (sa, .inl (cI, 120, .inl tx))] H := hP
    have hD : va_D A [(rd, .inr (3, [.ref sa, .int (nI n), .int (nI (pp + 1)), .int nu, .int st, .int mo, .int jo, .int vo, .int (bo_I re)])), (sa, .inl (cI, 120, .inl tx))] := hD
    have l_6 := rd_sp_lt hb_6
    refine lv_if_eq (tgt := 22) hx hb d_Rd_takeNextWord_9 (by decide) (fun z9 => absurd z9 (by decide)) (fun _ => ?_)
    refine lv_aload_n hx hb d_Rd_takeNextWord_12 rfl (lv_at hl 1 rfl) ?_
    refine lv_aload_n hx hb d_Rd_takeNextWord_13 rfl (lv_at hl 2 rfl) ?_
    have hF_14 := va_free (wc := [(rd, .inr (3, [.ref sa, .int (nI n), .int (nI (pp + 1)), .int nu, .int st, .int mo, .int jo, .int vo, .int (bo_I re)])), (sa, .inl (cI, 120, .inl tx))]) hD hS hA [0, 1] rfl
    refine wy_calli (wr := []) (w1 := [(rd, .inr (3, [.ref sa, .int (nI n), .int (nI (cond (rd_word tx n (pp + 1) (sv_w i) (sv_len i)) ((pp + 1) + sv_len i) (pp + 1))), .int nu, .int st, .int mo, .int jo, .int vo, .int (bo_I re)])), (sa, .inl (cI, 120, .inl tx))]) (va_runV (As := [.ref (ad i)]) (rest := []) ⟨hx, hb, hml, hown, hts⟩ (c_Rd_takeWord l dC dI H.size ad av rd sa cI tx n (pp + 1) nu st mo jo vo re i (by omega) (by omega) (hi)) (cwV 1 hts (ga_V kw_195 kw_197 kw_1 kw_35 (ga_in kw_198)) rfl rfl rfl (by decide +kernel) ⟨Nat.le_of_ble_eq_true rfl, Nat.le_of_ble_eq_true rfl⟩) (wy_mreVE 0 (hP.sub (ws' := [(rd, .inr (3, [.ref sa, .int (nI n), .int (nI (pp + 1)), .int nu, .int st, .int mo, .int jo, .int vo, .int (bo_I re)])), (sa, .inl (cI, 120, .inl tx))]) [0, 1] rfl) (hK.sub (tys' := [(cI, .int)]) [0] rfl) hN (hD.sub (ws' := [(rd, .inr (3, [.ref sa, .int (nI n), .int (nI (pp + 1)), .int nu, .int st, .int mo, .int jo, .int vo, .int (bo_I re)])), (sa, .inl (cI, 120, .inl tx))]) [0, 1] (by decide) rfl) hE hS hF_14 (ci := 3) rfl rfl rfl) rfl rfl hl.1 rfl (lv_room (Nat.le_of_ble_eq_true rfl)) d_Rd_takeNextWord_14 ⟨Nat.le_of_ble_eq_true rfl, Nat.le_of_ble_eq_true rfl⟩) hP hD hS hA [0, 1] [] rfl rfl (by decide) (by decide) (fun H locs hP hD hS => ?_)
    have hP := hP.sub (ws' := [(rd, .inr (3, [.ref sa, .int (nI n), .int (nI (cond (rd_word tx n (pp + 1) (sv_w i) (sv_len i)) ((pp + 1) + sv_len i) (pp + 1))), .int nu, .int st, .int mo, .int jo, .int vo, .int (bo_I re)])), (sa, .inl (cI, 120, .inl tx))]) [0, 1] rfl
    have hD := hD.sub (ws' := [(rd, .inr (3, [.ref sa, .int (nI n), .int (nI (cond (rd_word tx n (pp + 1) (sv_w i) (sv_len i)) ((pp + 1) + sv_len i) (pp + 1))), .int nu, .int st, .int mo, .int jo, .int vo, .int (bo_I re)])), (sa, .inl (cI, 120, .inl tx))]) [0, 1] (by decide) rfl
    rcases hb_14 : rd_word tx n (pp + 1) (sv_w i) (sv_len i) with _ | _
    · rw [hb_14] at hP hD
      have hP : va_P (dC, dI) ga_cl [(rd, .inr (3, [.ref sa, .int (nI n), .int (nI (pp + 1)), .int nu, .int st, .int mo, .int jo, .int vo, .int (bo_I re)])), (sa, .inl (cI, 120, .inl tx))] H := hP
      have hD : va_D A [(rd, .inr (3, [.ref sa, .int (nI n), .int (nI (pp + 1)), .int nu, .int st, .int mo, .int jo, .int vo, .int (bo_I re)])), (sa, .inl (cI, 120, .inl tx))] := hD
      refine lv_if_eq (tgt := 22) hx hb d_Rd_takeNextWord_17 (by decide) (fun _ => ?_) (fun z9 => absurd z9 (by decide))
      refine lv_aload_n hx hb d_Rd_takeNextWord_22 rfl (lv_at hl 1 rfl) ?_
      refine lv_iload_n hx hb d_Rd_takeNextWord_23 rfl (lv_at hl 0 rfl) ?_
      refine va_put (D := (dC, dI)) (ci := 3) (v := .int (nI pp)) (ty := .int) (C := "PatternText$PatternReader") (T := F_Rd) (N := 9) hx hb hts iw_Rd t_Rd t_Rd_ok n_Rd hown hK hP hD hS 0 rfl rfl 2 (by decide) (hts _ kw_66) (fun _ h9 => h9) rfl (by decide +kernel) rfl rfl (Nat.le_of_ble_eq_true rfl) d_Rd_takeNextWord_24 (fun H locs hP hD hS => ?_)
      have hP : va_P (dC, dI) ga_cl [(rd, .inr (3, [.ref sa, .int (nI n), .int (nI pp), .int nu, .int st, .int mo, .int jo, .int vo, .int (bo_I re)])), (sa, .inl (cI, 120, .inl tx))] H := hP
      have hD : va_D A [(rd, .inr (3, [.ref sa, .int (nI n), .int (nI pp), .int nu, .int st, .int mo, .int jo, .int vo, .int (bo_I re)])), (sa, .inl (cI, 120, .inl tx))] := hD
      refine lv_iconst (v := 0) hx hb d_Rd_takeNextWord_27 (by decide) ?_
      rw [hQ]
      have z9 : rd_next tx n pp (sv_w i) (sv_len i) = false := by simp [rd_next, *]
      have q9 : (0 : Int32) = bo_I (rd_next tx n pp (sv_w i) (sv_len i)) := by rw [z9]; rfl
      have e9 : ([(rd, .inr (3, [.ref sa, .int (nI n), .int (nI (cond (rd_next tx n pp (sv_w i) (sv_len i)) (pp + 1 + sv_len i) pp)), .int nu, .int st, .int mo, .int jo, .int vo, .int (bo_I re)])), (sa, .inl (cI, 120, .inl tx))] : va_W) = [(rd, .inr (3, [.ref sa, .int (nI n), .int (nI pp), .int nu, .int st, .int mo, .int jo, .int vo, .int (bo_I re)])), (sa, .inl (cI, 120, .inl tx))] := by rw [z9] <;> rfl
      exact W.zret (v := 0) hx hb hr rfl (fun t ht hW => ⟨⟨_, (), rfl, q9, by rw [ht, e9]; exact hP, va_K.moved hW.alike hK, by rw [e9]; exact hD⟩, hS.F ht⟩) hS.2.2 d_Rd_takeNextWord_28
    · rw [hb_14] at hP hD
      have hP : va_P (dC, dI) ga_cl [(rd, .inr (3, [.ref sa, .int (nI n), .int (nI ((pp + 1) + sv_len i)), .int nu, .int st, .int mo, .int jo, .int vo, .int (bo_I re)])), (sa, .inl (cI, 120, .inl tx))] H := hP
      have hD : va_D A [(rd, .inr (3, [.ref sa, .int (nI n), .int (nI ((pp + 1) + sv_len i)), .int nu, .int st, .int mo, .int jo, .int vo, .int (bo_I re)])), (sa, .inl (cI, 120, .inl tx))] := hD
      refine lv_if_eq (tgt := 22) hx hb d_Rd_takeNextWord_17 (by decide) (fun z9 => absurd z9 (by decide)) (fun _ => ?_)
      refine lv_iconst (v := 1) hx hb d_Rd_takeNextWord_20 (by decide) ?_
      rw [hQ]
      have z9 : rd_next tx n pp (sv_w i) (sv_len i) = true := by simp [rd_next, *]
      have q9 : (1 : Int32) = bo_I (rd_next tx n pp (sv_w i) (sv_len i)) := by rw [z9]; rfl
      have e9 : ([(rd, .inr (3, [.ref sa, .int (nI n), .int (nI (cond (rd_next tx n pp (sv_w i) (sv_len i)) (pp + 1 + sv_len i) pp)), .int nu, .int st, .int mo, .int jo, .int vo, .int (bo_I re)])), (sa, .inl (cI, 120, .inl tx))] : va_W) = [(rd, .inr (3, [.ref sa, .int (nI n), .int (nI ((pp + 1) + sv_len i)), .int nu, .int st, .int mo, .int jo, .int vo, .int (bo_I re)])), (sa, .inl (cI, 120, .inl tx))] := by rw [z9] <;> rfl
      exact W.zret (v := 1) hx hb hr rfl (fun t ht hW => ⟨⟨_, (), rfl, q9, by rw [ht, e9]; exact hP, va_K.moved hW.alike hK, by rw [e9]; exact hD⟩, hS.F ht⟩) hS.2.2 d_Rd_takeNextWord_21
end
section
/-! the reader's longer methods as functions -/
theorem rd_sg_lt {tx : Nat → Int32} {n p : Nat} (h : rd_sg tx n p = 44) : p < n := by
  unfold rd_sg at h
  by_cases hp : p < n
  · exact hp
  · rw [if_neg hp] at h
    exact absurd h (by decide)
theorem rd_next_le {tx : Nat → Int32} {n p : Nat} {w : Nat → Int32} {L : Nat} (h : rd_next tx n p w L = true) : p + 1 + L ≤ n := by
  simp only [rd_next, Bool.and_eq_true] at h
  exact rd_word_le h.2
theorem rd_mon_go {tx : Nat → Int32} {n k lo p : Nat} {nu mo : Int32} (hk : k ≤ 12) : rd_mon tx n (13 - k) lo p nu mo = cond (rd_num tx n lo 11 p)
      (cond (decide (rd_sg tx n (rd_end tx n p) = 44))
        (rd_mon tx n (13 - (k + 1)) (rd_val tx n p + 1) (rd_end tx n p + 1) (nI (rd_val tx n p)) (mo ||| ((1 : Int32) <<< (nI (rd_val tx n p) &&& 31))))
        (true, rd_end tx n p, nI (rd_val tx n p), mo ||| ((1 : Int32) <<< (nI (rd_val tx n p) &&& 31))))
      (false, p, nu, mo) := by
  obtain ⟨f, hf⟩ : ∃ f, 13 - k = f + 1 := ⟨12 - k, by omega⟩
  rw [hf, show 13 - (k + 1) = f by omega, rd_mon]
theorem rd_mon_le (tx : Nat → Int32) (n : Nat) : ∀ (f lo p : Nat) (nu mo : Int32), p ≤ n → (rd_mon tx n f lo p nu mo).2.1 ≤ n := by
  intro f
  induction f with
  | zero => intro lo p nu mo hp; exact hp
  | succ f ih =>
    intro lo p nu mo hp
    rw [rd_mon]
    cases rd_num tx n lo 11 p with
    | false => exact hp
    | true =>
      cases hs : decide (rd_sg tx n (rd_end tx n p) = 44) with
      | false => exact (rd_end_le hp).2.1
      | true => exact ih _ _ _ _ (rd_sg_lt (of_decide_eq_true hs))
/-- every N days: right?, place, number, days -/
def rd_how (tx : Nat → Int32) (n pp : Nat) (nu st : Int32) : Bool × Nat × Int32 × Int32 :=
  cond (rd_word tx n pp (sv_w 0) (sv_len 0))
    (cond (rd_sp tx n (pp + sv_len 0))
      (cond (rd_num tx n 1 99 (pp + sv_len 0 + 1))
        (cond (rd_sp tx n (rd_end tx n (pp + sv_len 0 + 1)))
          (cond (rd_word tx n (rd_end tx n (pp + sv_len 0 + 1) + 1) (sv_w 1) (sv_len 1)) (true, rd_end tx n (pp + sv_len 0 + 1) + 1 + sv_len 1, nI (rd_val tx n (pp + sv_len 0 + 1)), nI (rd_val tx n (pp + sv_len 0 + 1)))
            (cond (rd_word tx n (rd_end tx n (pp + sv_len 0 + 1) + 1) (sv_w 2) (sv_len 2)) (true, rd_end tx n (pp + sv_len 0 + 1) + 1 + sv_len 2, nI (rd_val tx n (pp + sv_len 0 + 1)), nI (rd_val tx n (pp + sv_len 0 + 1) * 7))
              (cond (rd_word tx n (rd_end tx n (pp + sv_len 0 + 1) + 1) (sv_w 3) (sv_len 3)) (true, rd_end tx n (pp + sv_len 0 + 1) + 1 + sv_len 3, nI (rd_val tx n (pp + sv_len 0 + 1)), nI (rd_val tx n (pp + sv_len 0 + 1) * 30))
                (false, rd_end tx n (pp + sv_len 0 + 1) + 1, nI (rd_val tx n (pp + sv_len 0 + 1)), st))))
          (false, rd_end tx n (pp + sv_len 0 + 1), nI (rd_val tx n (pp + sv_len 0 + 1)), st))
        (false, pp + sv_len 0 + 1, nu, st))
      (false, pp + sv_len 0, nu, st))
    (false, pp, nu, st)
def rd_c1 (tx : Nat → Int32) (n p : Nat) (nu mo : Int32) : Bool × Nat × Int32 × Int32 :=
  cond (rd_next tx n p (sv_w 4) (sv_len 4)) (cond (rd_sp tx n (p + 1 + sv_len 4)) (rd_mon tx n 13 0 (p + 1 + sv_len 4 + 1) nu mo) (false, p + 1 + sv_len 4, nu, mo)) (true, p, nu, mo)
def rd_c2 (tx : Nat → Int32) (n p : Nat) (nu jo : Int32) : Bool × Nat × Int32 × Int32 :=
  cond (rd_next tx n p (sv_w 5) (sv_len 5)) (cond (rd_sp tx n (p + 1 + sv_len 5)) (cond (rd_num tx n 2 99 (p + 1 + sv_len 5 + 1)) (true, rd_end tx n (p + 1 + sv_len 5 + 1), nI (rd_val tx n (p + 1 + sv_len 5 + 1)), nI (rd_val tx n (p + 1 + sv_len 5 + 1))) (false, p + 1 + sv_len 5 + 1, nu, jo)) (false, p + 1 + sv_len 5, nu, jo)) (true, p, nu, jo)
def rd_c3 (tx : Nat → Int32) (n p : Nat) (nu vo : Int32) (re : Bool) : Bool × Nat × Int32 × Int32 × Bool :=
  cond (rd_next tx n p (sv_w 6) (sv_len 6)) (cond (rd_sp tx n (p + 1 + sv_len 6)) (cond (rd_num tx n 1 99 (p + 1 + sv_len 6 + 1)) (cond (rd_next tx n (rd_end tx n (p + 1 + sv_len 6 + 1)) (sv_w 7) (sv_len 7)) (true, rd_end tx n (p + 1 + sv_len 6 + 1) + 1 + sv_len 7, nI (rd_val tx n (p + 1 + sv_len 6 + 1)), nI (rd_val tx n (p + 1 + sv_len 6 + 1)), true) (true, rd_end tx n (p + 1 + sv_len 6 + 1), nI (rd_val tx n (p + 1 + sv_len 6 + 1)), nI (rd_val tx n (p + 1 + sv_len 6 + 1)), false)) (false, p + 1 + sv_len 6 + 1, nu, vo, re)) (false, p + 1 + sv_len 6, nu, vo, re)) (true, p, nu, vo, re)
/-- the clauses: right?, place, number, months, joined, volume, restarts -/
def rd_cl (tx : Nat → Int32) (n p : Nat) (nu mo jo vo : Int32) (re : Bool) : Bool × Nat × Int32 × Int32 × Int32 × Int32 × Bool :=
  cond (rd_c1 tx n p nu mo).1
    (cond (rd_c2 tx n (rd_c1 tx n p nu mo).2.1 (rd_c1 tx n p nu mo).2.2.1 jo).1
      ((rd_c3 tx n (rd_c2 tx n (rd_c1 tx n p nu mo).2.1 (rd_c1 tx n p nu mo).2.2.1 jo).2.1 (rd_c2 tx n (rd_c1 tx n p nu mo).2.1 (rd_c1 tx n p nu mo).2.2.1 jo).2.2.1 vo re).1,
       (rd_c3 tx n (rd_c2 tx n (rd_c1 tx n p nu mo).2.1 (rd_c1 tx n p nu mo).2.2.1 jo).2.1 (rd_c2 tx n (rd_c1 tx n p nu mo).2.1 (rd_c1 tx n p nu mo).2.2.1 jo).2.2.1 vo re).2.1,
       (rd_c3 tx n (rd_c2 tx n (rd_c1 tx n p nu mo).2.1 (rd_c1 tx n p nu mo).2.2.1 jo).2.1 (rd_c2 tx n (rd_c1 tx n p nu mo).2.1 (rd_c1 tx n p nu mo).2.2.1 jo).2.2.1 vo re).2.2.1,
       (rd_c1 tx n p nu mo).2.2.2, (rd_c2 tx n (rd_c1 tx n p nu mo).2.1 (rd_c1 tx n p nu mo).2.2.1 jo).2.2.2,
       (rd_c3 tx n (rd_c2 tx n (rd_c1 tx n p nu mo).2.1 (rd_c1 tx n p nu mo).2.2.1 jo).2.1 (rd_c2 tx n (rd_c1 tx n p nu mo).2.1 (rd_c1 tx n p nu mo).2.2.1 jo).2.2.1 vo re).2.2.2.1,
       (rd_c3 tx n (rd_c2 tx n (rd_c1 tx n p nu mo).2.1 (rd_c1 tx n p nu mo).2.2.1 jo).2.1 (rd_c2 tx n (rd_c1 tx n p nu mo).2.1 (rd_c1 tx n p nu mo).2.2.1 jo).2.2.1 vo re).2.2.2.2)
      (false, (rd_c2 tx n (rd_c1 tx n p nu mo).2.1 (rd_c1 tx n p nu mo).2.2.1 jo).2.1, (rd_c2 tx n (rd_c1 tx n p nu mo).2.1 (rd_c1 tx n p nu mo).2.2.1 jo).2.2.1, (rd_c1 tx n p nu mo).2.2.2, (rd_c2 tx n (rd_c1 tx n p nu mo).2.1 (rd_c1 tx n p nu mo).2.2.1 jo).2.2.2, vo, re))
    (false, (rd_c1 tx n p nu mo).2.1, (rd_c1 tx n p nu mo).2.2.1, (rd_c1 tx n p nu mo).2.2.2, jo, vo, re)
theorem rd_how_le {tx : Nat → Int32} {n pp : Nat} {nu st : Int32} (h : pp ≤ n) : (rd_how tx n pp nu st).2.1 ≤ n := by
  unfold rd_how
  cases h1 : rd_word tx n pp (sv_w 0) (sv_len 0) with
  | false => exact h
  | true =>
    have l1 := rd_word_le h1
    cases h2 : rd_sp tx n (pp + sv_len 0) with
    | false => exact l1
    | true =>
      have l2 := rd_sp_lt h2
      cases h3 : rd_num tx n 1 99 (pp + sv_len 0 + 1) with
      | false => exact l2
      | true =>
        have l3 := (rd_end_le (tx := tx) (n := n) (p := pp + sv_len 0 + 1) l2).2.1
        cases h4 : rd_sp tx n (rd_end tx n (pp + sv_len 0 + 1)) with
        | false => exact l3
        | true =>
          have l4 := rd_sp_lt h4
          cases h5 : rd_word tx n (rd_end tx n (pp + sv_len 0 + 1) + 1) (sv_w 1) (sv_len 1) with
          | true => exact rd_word_le h5
          | false =>
            cases h6 : rd_word tx n (rd_end tx n (pp + sv_len 0 + 1) + 1) (sv_w 2) (sv_len 2) with
            | true => exact rd_word_le h6
            | false =>
              cases h7 : rd_word tx n (rd_end tx n (pp + sv_len 0 + 1) + 1) (sv_w 3) (sv_len 3) with
              | true => exact rd_word_le h7
              | false => exact l4
theorem rd_c1_le {tx : Nat → Int32} {n p : Nat} {nu mo : Int32} (h : p ≤ n) : (rd_c1 tx n p nu mo).2.1 ≤ n := by
  unfold rd_c1
  cases h1 : rd_next tx n p (sv_w 4) (sv_len 4) with
  | false => exact h
  | true =>
    cases h2 : rd_sp tx n (p + 1 + sv_len 4) with
    | false => exact rd_next_le h1
    | true => exact rd_mon_le tx n 13 0 _ nu mo (rd_sp_lt h2)
theorem rd_c2_le {tx : Nat → Int32} {n p : Nat} {nu jo : Int32} (h : p ≤ n) : (rd_c2 tx n p nu jo).2.1 ≤ n := by
  unfold rd_c2
  cases h1 : rd_next tx n p (sv_w 5) (sv_len 5) with
  | false => exact h
  | true =>
    cases h2 : rd_sp tx n (p + 1 + sv_len 5) with
    | false => exact rd_next_le h1
    | true =>
      cases h3 : rd_num tx n 2 99 (p + 1 + sv_len 5 + 1) with
      | false => exact rd_sp_lt h2
      | true => exact (rd_end_le (rd_sp_lt h2)).2.1
theorem rd_c3_le {tx : Nat → Int32} {n p : Nat} {nu vo : Int32} {re : Bool} (h : p ≤ n) : (rd_c3 tx n p nu vo re).2.1 ≤ n := by
  unfold rd_c3
  cases h1 : rd_next tx n p (sv_w 6) (sv_len 6) with
  | false => exact h
  | true =>
    cases h2 : rd_sp tx n (p + 1 + sv_len 6) with
    | false => exact rd_next_le h1
    | true =>
      cases h3 : rd_num tx n 1 99 (p + 1 + sv_len 6 + 1) with
      | false => exact rd_sp_lt h2
      | true =>
        cases h4 : rd_next tx n (rd_end tx n (p + 1 + sv_len 6 + 1)) (sv_w 7) (sv_len 7) with
        | false => exact (rd_end_le (rd_sp_lt h2)).2.1
        | true => exact rd_next_le h4
theorem rd_cl_le {tx : Nat → Int32} {n p : Nat} {nu mo jo vo : Int32} {re : Bool} (h : p ≤ n) : (rd_cl tx n p nu mo jo vo re).2.1 ≤ n := by
  unfold rd_cl
  have a1 := rd_c1_le (tx := tx) (nu := nu) (mo := mo) h
  cases (rd_c1 tx n p nu mo).1 with
  | false => exact a1
  | true =>
    have a2 := rd_c2_le (tx := tx) (nu := (rd_c1 tx n p nu mo).2.2.1) (jo := jo) a1
    cases (rd_c2 tx n (rd_c1 tx n p nu mo).2.1 (rd_c1 tx n p nu mo).2.2.1 jo).1 with
    | false => exact a2
    | true => exact rd_c3_le a2
/-- the whole text: right?, place, number, days, months, joined, volume, restarts -/
def rd_und (tx : Nat → Int32) (n : Nat) (nu st : Int32) : Bool × Nat × Int32 × Int32 × Int32 × Int32 × Int32 × Bool :=
  cond (rd_how tx n 0 nu st).1
    (cond (rd_cl tx n (rd_how tx n 0 nu st).2.1 (rd_how tx n 0 nu st).2.2.1 0 0 0 false).1
      (cond (decide ((rd_cl tx n (rd_how tx n 0 nu st).2.1 (rd_how tx n 0 nu st).2.2.1 0 0 0 false).2.1 = n))
        (true, (rd_cl tx n (rd_how tx n 0 nu st).2.1 (rd_how tx n 0 nu st).2.2.1 0 0 0 false).2.1, (rd_cl tx n (rd_how tx n 0 nu st).2.1 (rd_how tx n 0 nu st).2.2.1 0 0 0 false).2.2.1, (rd_how tx n 0 nu st).2.2.2, (rd_cl tx n (rd_how tx n 0 nu st).2.1 (rd_how tx n 0 nu st).2.2.1 0 0 0 false).2.2.2.1, (rd_cl tx n (rd_how tx n 0 nu st).2.1 (rd_how tx n 0 nu st).2.2.1 0 0 0 false).2.2.2.2.1, (rd_cl tx n (rd_how tx n 0 nu st).2.1 (rd_how tx n 0 nu st).2.2.1 0 0 0 false).2.2.2.2.2.1, (rd_cl tx n (rd_how tx n 0 nu st).2.1 (rd_how tx n 0 nu st).2.2.1 0 0 0 false).2.2.2.2.2.2)
        (false, cond (rd_sp tx n (rd_cl tx n (rd_how tx n 0 nu st).2.1 (rd_how tx n 0 nu st).2.2.1 0 0 0 false).2.1) ((rd_cl tx n (rd_how tx n 0 nu st).2.1 (rd_how tx n 0 nu st).2.2.1 0 0 0 false).2.1 + 1) (rd_cl tx n (rd_how tx n 0 nu st).2.1 (rd_how tx n 0 nu st).2.2.1 0 0 0 false).2.1, (rd_cl tx n (rd_how tx n 0 nu st).2.1 (rd_how tx n 0 nu st).2.2.1 0 0 0 false).2.2.1, (rd_how tx n 0 nu st).2.2.2, (rd_cl tx n (rd_how tx n 0 nu st).2.1 (rd_how tx n 0 nu st).2.2.1 0 0 0 false).2.2.2.1, (rd_cl tx n (rd_how tx n 0 nu st).2.1 (rd_how tx n 0 nu st).2.2.1 0 0 0 false).2.2.2.2.1, (rd_cl tx n (rd_how tx n 0 nu st).2.1 (rd_how tx n 0 nu st).2.2.1 0 0 0 false).2.2.2.2.2.1, (rd_cl tx n (rd_how tx n 0 nu st).2.1 (rd_how tx n 0 nu st).2.2.1 0 0 0 false).2.2.2.2.2.2))
      (false, (rd_cl tx n (rd_how tx n 0 nu st).2.1 (rd_how tx n 0 nu st).2.2.1 0 0 0 false).2.1, (rd_cl tx n (rd_how tx n 0 nu st).2.1 (rd_how tx n 0 nu st).2.2.1 0 0 0 false).2.2.1, (rd_how tx n 0 nu st).2.2.2, (rd_cl tx n (rd_how tx n 0 nu st).2.1 (rd_how tx n 0 nu st).2.2.1 0 0 0 false).2.2.2.1, (rd_cl tx n (rd_how tx n 0 nu st).2.1 (rd_how tx n 0 nu st).2.2.1 0 0 0 false).2.2.2.2.1, (rd_cl tx n (rd_how tx n 0 nu st).2.1 (rd_how tx n 0 nu st).2.2.1 0 0 0 false).2.2.2.2.2.1, (rd_cl tx n (rd_how tx n 0 nu st).2.1 (rd_how tx n 0 nu st).2.2.1 0 0 0 false).2.2.2.2.2.2))
    (false, (rd_how tx n 0 nu st).2.1, (rd_how tx n 0 nu st).2.2.1, (rd_how tx n 0 nu st).2.2.2, 0, 0, 0, false)
end
section
set_option maxHeartbeats 4000000 in
set_option maxRecDepth 100000 in
/-- takeMonths -/
theorem c_Rd_takeMonths (l : Launch) (dC : Nat → ClassId) (dI : Nat → Nat → Nat) (sz : Nat) (rd : Nat) (sa : Nat) (cI : ClassId) (tx : Nat → Int32) (n : Nat) (pp : Nat) (nu : Int32) (st : Int32) (mo : Int32) (jo : Int32) (vo : Int32) (re : Bool) (hn : n ≤ 120) (hp : pp ≤ n) : Met l y_Rd_takeMonths w_Rd_takeMonths ({ frames := 3, cells := 0, slots := 0, locals := 67 }) (va_Pc [.ref rd] (wy_M (dC, dI) ga_cl [(rd, .inr (3, [.ref sa, .int (nI n), .int (nI pp), .int nu, .int st, .int mo, .int jo, .int vo, .int (bo_I re)])), (sa, .inl (cI, 120, .inl tx))] [(cI, .int)] sz)) (va_Qi (fun (r : Int32) (_ : Unit) => r = bo_I ((rd_mon tx n 13 0 pp nu mo).1)) (fun _ => wy_N (dC, dI) ga_cl [(cI, .int)] (va_A [(rd, .inr (3, [.ref sa, .int (nI n), .int (nI pp), .int nu, .int st, .int mo, .int jo, .int vo, .int (bo_I re)])), (sa, .inl (cI, 120, .inl tx))] sz) [(rd, .inr (3, [.ref sa, .int (nI n), .int (nI ((rd_mon tx n 13 0 pp nu mo).2.1)), .int ((rd_mon tx n 13 0 pp nu mo).2.2.1), .int st, .int ((rd_mon tx n 13 0 pp nu mo).2.2.2), .int jo, .int vo, .int (bo_I re)])), (sa, .inl (cI, 120, .inl tx))]) (va_A [(rd, .inr (3, [.ref sa, .int (nI n), .int (nI pp), .int nu, .int st, .int mo, .int jo, .int vo, .int (bo_I re)])), (sa, .inl (cI, 120, .inl tx))] sz)) 0 0 (va_A [(rd, .inr (3, [.ref sa, .int (nI n), .int (nI pp), .int nu, .int st, .int mo, .int jo, .int vo, .int (bo_I re)])), (sa, .inl (cI, 120, .inl tx))] sz) := by
  refine Met.ofW (cc := b_Rd_takeMonths) (maxL := 3) (ret := (some .boolean)) (by decide) rfl ?_
  intro p e s m args below meth c s₁ B hml hv
  obtain ⟨rfl, hsz, hP, hK, hN, hD0⟩ := hv
  have hx := B.exec
  have hb := B.bytes
  have hr := B.returns
  have hts : ∀ w ∈ ga_tbl, w.before _ s = true := fun w h => atoms_spec (ws := w_Rd_takeMonths) B.pre w (List.mem_cons_of_mem _ h)
  have hown : s.vm.findClass "PatternText$PatternReader" = some m.cls := findClass_of_methodNamed B.named
  have hlocks := B.notSynchronized
  subst hsz
  have hD := hD0.self (sz := s.heap.size)
  generalize hAe : va_A [(rd, .inr (3, [.ref sa, .int (nI n), .int (nI pp), .int nu, .int st, .int mo, .int jo, .int vo, .int (bo_I re)])), (sa, .inl (cI, 120, .inl tx))] s.heap.size = A at hD ⊢
  have hA : ∀ q : Nat, s.heap.size ≤ q → A q := fun q h => by rw [← hAe]; exact Or.inr h
  have hS : va_S A s.heap s.heap [] := va_S.rf
  have hl := lv_entry ([.ref rd]) (n := 3) (Nat.le_of_ble_eq_true rfl)
  rw [lg_entry_eq]
  generalize (lg_sl ([.ref rd]) ++ List.replicate (3 - (lg_sl ([.ref rd])).length) Slot.unset).toArray = ls at hl ⊢
  have hl : lv_has ls 3 [(0, .ref rd)] := hl
  obtain ⟨Q0, hQ⟩ : ∃ Q0 : State → Prop, Q0 = MQ below (va_Qi (fun (r : Int32) (_ : Unit) => r = bo_I ((rd_mon tx n 13 0 pp nu mo).1)) (fun _ => wy_N (dC, dI) ga_cl [(cI, .int)] A [(rd, .inr (3, [.ref sa, .int (nI n), .int (nI ((rd_mon tx n 13 0 pp nu mo).2.1)), .int ((rd_mon tx n 13 0 pp nu mo).2.2.1), .int st, .int ((rd_mon tx n 13 0 pp nu mo).2.2.2), .int jo, .int vo, .int (bo_I re)])), (sa, .inl (cI, 120, .inl tx))]) A) ([.ref rd] : List Value).toArray s 0 0 A := ⟨_, rfl⟩
  show W p l e ({ frames := 3, cells := 0, slots := 0, locals := 67 }) s m ([.ref rd] : List Value).toArray below meth c s.heap [] 0 0 (MQ below (va_Qi (fun (r : Int32) (_ : Unit) => r = bo_I ((rd_mon tx n 13 0 pp nu mo).1)) (fun _ => wy_N (dC, dI) ga_cl [(cI, .int)] A [(rd, .inr (3, [.ref sa, .int (nI n), .int (nI ((rd_mon tx n 13 0 pp nu mo).2.1)), .int ((rd_mon tx n 13 0 pp nu mo).2.2.1), .int st, .int ((rd_mon tx n 13 0 pp nu mo).2.2.2), .int jo, .int vo, .int (bo_I re)])), (sa, .inl (cI, 120, .inl tx))]) A) ([.ref rd] : List Value).toArray s 0 0 A) (F0 m 0 ls [])
  rw [← hQ]
  refine lv_iconst (v := 0) hx hb d_Rd_takeMonths_0 (by decide) ?_
  refine lv_istore_n (lv' := [(1, .int 0), (0, .ref rd)]) hx hb d_Rd_takeMonths_1 rfl hl (by decide) rfl (fun ls hl => ?_)
  refine lv_iconst (v := 0) hx hb d_Rd_takeMonths_2 (by decide) ?_
  refine lv_istore_n (lv' := [(2, .int 0), (1, .int 0), (0, .ref rd)]) hx hb d_Rd_takeMonths_3 rfl hl (by decide) rfl (fun ls hl => ?_)
  have loop_4 : ∀ (fu : Nat) (kk : Nat) (lo : Nat) (pq : Nat) (nq : Int32) (mq : Int32), (kk ≤ 13) → (pq ≤ n) → (lo ≤ 101) → (rd_mon tx n (13 - kk) lo pq nq mq = rd_mon tx n 13 0 pp nu mo) → 13 - kk < fu → ∀ (H : Heap) (locs : List Loc), va_P (dC, dI) ga_cl [(rd, .inr (3, [.ref sa, .int (nI n), .int (nI pq), .int nq, .int st, .int mq, .int jo, .int vo, .int (bo_I re)])), (sa, .inl (cI, 120, .inl tx))] H → va_D A [(rd, .inr (3, [.ref sa, .int (nI n), .int (nI pq), .int nq, .int st, .int mq, .int jo, .int vo, .int (bo_I re)])), (sa, .inl (cI, 120, .inl tx))] → va_S A s.heap H locs → ∀ (ls : Array Slot), lv_has ls 3 [(0, .ref rd), (1, .int (nI lo)), (2, .int (nI kk))] → W p l e ({ frames := 3, cells := 0, slots := 0, locals := 67 }) s m ([.ref rd] : List Value).toArray below meth c H locs 0 0 Q0 (F0 m 4 ls []) := by
    intro fu
    induction fu with
    | zero => intro kk lo pq nq mq h1 h2 h3 hR hmu; exact absurd hmu (Nat.not_lt_zero _)
    | succ fu ih_4 =>
      intro kk lo pq nq mq h1 h2 h3 hR hmu H locs hP hD hS ls hl
      refine lv_iload_n hx hb d_Rd_takeMonths_4 rfl (lv_at hl 2 rfl) ?_
      refine lv_bipush (v := 12) hx hb d_Rd_takeMonths_5 (by decide) ?_
      refine wy_icmp_gt (tgt := 71) hx hb kk 12 (by omega) (by omega) d_Rd_takeMonths_7 (by decide) (fun c_7 => ?_) (fun c_7 => ?_)
      · refine lv_iconst (v := 0) hx hb d_Rd_takeMonths_71 (by decide) ?_
        rw [hQ]
        have z9 : rd_mon tx n 13 0 pp nu mo = (false, pq, nq, mq) := by rw [← hR, show 13 - kk = 0 by omega, rd_mon]
        have q9 : (0 : Int32) = bo_I ((rd_mon tx n 13 0 pp nu mo).1) := by rw [z9]; rfl
        have e9 : ([(rd, .inr (3, [.ref sa, .int (nI n), .int (nI ((rd_mon tx n 13 0 pp nu mo).2.1)), .int ((rd_mon tx n 13 0 pp nu mo).2.2.1), .int st, .int ((rd_mon tx n 13 0 pp nu mo).2.2.2), .int jo, .int vo, .int (bo_I re)])), (sa, .inl (cI, 120, .inl tx))] : va_W) = [(rd, .inr (3, [.ref sa, .int (nI n), .int (nI pq), .int nq, .int st, .int mq, .int jo, .int vo, .int (bo_I re)])), (sa, .inl (cI, 120, .inl tx))] := by rw [z9]
        exact W.zret (v := 0) hx hb hr rfl (fun t ht hW => ⟨⟨_, (), rfl, q9, by rw [ht, e9]; exact hP, va_K.moved hW.alike hK, by rw [e9]; exact hD⟩, hS.F ht⟩) hS.2.2 d_Rd_takeMonths_72
      · refine lv_aload_n hx hb d_Rd_takeMonths_10 rfl (lv_at hl 0 rfl) ?_
        refine lv_iload_n hx hb d_Rd_takeMonths_11 rfl (lv_at hl 1 rfl) ?_
        refine lv_bipush (v := 11) hx hb d_Rd_takeMonths_12 (by decide) ?_
        refine wy_calli (wr := []) (w1 := [(rd, .inr (3, [.ref sa, .int (nI n), .int (nI (cond (rd_num tx n lo 11 pq) (rd_end tx n pq) pq)), .int (cond (rd_num tx n lo 11 pq) (nI (rd_val tx n pq)) nq), .int st, .int mq, .int jo, .int vo, .int (bo_I re)])), (sa, .inl (cI, 120, .inl tx))]) (va_runV (As := [.int (nI lo), .int 11]) (rest := []) ⟨hx, hb, hml, hown, hts⟩ (c_Rd_takeNumber l dC dI H.size rd sa cI tx n pq nq st mq jo vo re lo 11 (by omega) (by omega) (by omega) (by omega)) (cwV 2 hts (ga_V kw_262 kw_264 kw_5 kw_35 (ga_in kw_265)) rfl rfl rfl (by decide +kernel) ⟨Nat.le_of_ble_eq_true rfl, Nat.le_of_ble_eq_true rfl⟩) (wy_mreV 0 (hP.sub (ws' := [(rd, .inr (3, [.ref sa, .int (nI n), .int (nI pq), .int nq, .int st, .int mq, .int jo, .int vo, .int (bo_I re)])), (sa, .inl (cI, 120, .inl tx))]) [0, 1] rfl) (hK.sub (tys' := [(cI, .int)]) [0] rfl) hN (hD.sub (ws' := [(rd, .inr (3, [.ref sa, .int (nI n), .int (nI pq), .int nq, .int st, .int mq, .int jo, .int vo, .int (bo_I re)])), (sa, .inl (cI, 120, .inl tx))]) [0, 1] (by decide) rfl) (ci := 3) rfl rfl rfl) rfl rfl hl.1 rfl (lv_room (Nat.le_of_ble_eq_true rfl)) d_Rd_takeMonths_14 ⟨Nat.le_of_ble_eq_true rfl, Nat.le_of_ble_eq_true rfl⟩) hP hD hS hA [0, 1] [] rfl rfl (by decide) (by decide) (fun H locs hP hD hS => ?_)
        have hP := hP.sub (ws' := [(rd, .inr (3, [.ref sa, .int (nI n), .int (nI (cond (rd_num tx n lo 11 pq) (rd_end tx n pq) pq)), .int (cond (rd_num tx n lo 11 pq) (nI (rd_val tx n pq)) nq), .int st, .int mq, .int jo, .int vo, .int (bo_I re)])), (sa, .inl (cI, 120, .inl tx))]) [0, 1] rfl
        have hD := hD.sub (ws' := [(rd, .inr (3, [.ref sa, .int (nI n), .int (nI (cond (rd_num tx n lo 11 pq) (rd_end tx n pq) pq)), .int (cond (rd_num tx n lo 11 pq) (nI (rd_val tx n pq)) nq), .int st, .int mq, .int jo, .int vo, .int (bo_I re)])), (sa, .inl (cI, 120, .inl tx))]) [0, 1] (by decide) rfl
        rcases hb_14 : rd_num tx n lo 11 pq with _ | _
        · rw [hb_14] at hP hD
          have hP : va_P (dC, dI) ga_cl [(rd, .inr (3, [.ref sa, .int (nI n), .int (nI pq), .int nq, .int st, .int mq, .int jo, .int vo, .int (bo_I re)])), (sa, .inl (cI, 120, .inl tx))] H := hP
          have hD : va_D A [(rd, .inr (3, [.ref sa, .int (nI n), .int (nI pq), .int nq, .int st, .int mq, .int jo, .int vo, .int (bo_I re)])), (sa, .inl (cI, 120, .inl tx))] := hD
          refine lv_if_ne (tgt := 22) hx hb d_Rd_takeMonths_17 (by decide) (fun z9 => absurd z9 (by decide)) (fun _ => ?_)
          refine lv_iconst (v := 0) hx hb d_Rd_takeMonths_20 (by decide) ?_
          rw [hQ]
          have z9 : rd_mon tx n 13 0 pp nu mo = (false, pq, nq, mq) := by rw [← hR, rd_mon_go (by omega), hb_14]; rfl
          have q9 : (0 : Int32) = bo_I ((rd_mon tx n 13 0 pp nu mo).1) := by rw [z9]; rfl
          have e9 : ([(rd, .inr (3, [.ref sa, .int (nI n), .int (nI ((rd_mon tx n 13 0 pp nu mo).2.1)), .int ((rd_mon tx n 13 0 pp nu mo).2.2.1), .int st, .int ((rd_mon tx n 13 0 pp nu mo).2.2.2), .int jo, .int vo, .int (bo_I re)])), (sa, .inl (cI, 120, .inl tx))] : va_W) = [(rd, .inr (3, [.ref sa, .int (nI n), .int (nI pq), .int nq, .int st, .int mq, .int jo, .int vo, .int (bo_I re)])), (sa, .inl (cI, 120, .inl tx))] := by rw [z9]
          exact W.zret (v := 0) hx hb hr rfl (fun t ht hW => ⟨⟨_, (), rfl, q9, by rw [ht, e9]; exact hP, va_K.moved hW.alike hK, by rw [e9]; exact hD⟩, hS.F ht⟩) hS.2.2 d_Rd_takeMonths_21
        · rw [hb_14] at hP hD
          have hP : va_P (dC, dI) ga_cl [(rd, .inr (3, [.ref sa, .int (nI n), .int (nI (rd_end tx n pq)), .int (nI (rd_val tx n pq)), .int st, .int mq, .int jo, .int vo, .int (bo_I re)])), (sa, .inl (cI, 120, .inl tx))] H := hP
          have hD : va_D A [(rd, .inr (3, [.ref sa, .int (nI n), .int (nI (rd_end tx n pq)), .int (nI (rd_val tx n pq)), .int st, .int mq, .int jo, .int vo, .int (bo_I re)])), (sa, .inl (cI, 120, .inl tx))] := hD
          have l_14 := rd_end_le (tx := tx) h2
          refine lv_if_ne (tgt := 22) hx hb d_Rd_takeMonths_17 (by decide) (fun _ => ?_) (fun z9 => absurd z9 (by decide))
          refine lv_aload_n hx hb d_Rd_takeMonths_22 rfl (lv_at hl 0 rfl) ?_
          refine lv_dup hx hb d_Rd_takeMonths_23 rfl ?_
          refine va_get (D := (dC, dI)) (ci := 3) (v := .int mq) (C := "PatternText$PatternReader") (T := F_Rd) (N := 9) hx hb hts iw_Rd hown hK hP 0 rfl rfl 5 (by decide) (hts _ kw_70) (fun _ h9 => h9) rfl d_Rd_takeMonths_24 ?_
          refine lv_iconst (v := 1) hx hb d_Rd_takeMonths_27 (by decide) ?_
          refine lv_aload_n hx hb d_Rd_takeMonths_28 rfl (lv_at hl 0 rfl) ?_
          refine va_get (D := (dC, dI)) (ci := 3) (v := .int (nI (rd_val tx n pq))) (C := "PatternText$PatternReader") (T := F_Rd) (N := 9) hx hb hts iw_Rd hown hK hP 0 rfl rfl 3 (by decide) (hts _ kw_68) (fun _ h9 => h9) rfl d_Rd_takeMonths_29 ?_
          refine lv_ishl hx hb d_Rd_takeMonths_32 ?_
          refine lv_ior hx hb d_Rd_takeMonths_33 ?_
          refine va_put (D := (dC, dI)) (ci := 3) (v := .int (mq ||| ((1 : Int32) <<< ((nI (rd_val tx n pq)) &&& 31)))) (ty := .int) (C := "PatternText$PatternReader") (T := F_Rd) (N := 9) hx hb hts iw_Rd t_Rd t_Rd_ok n_Rd hown hK hP hD hS 0 rfl rfl 5 (by decide) (hts _ kw_70) (fun _ h9 => h9) rfl (by decide +kernel) rfl rfl (Nat.le_of_ble_eq_true rfl) d_Rd_takeMonths_34 (fun H locs hP hD hS => ?_)
          have hP : va_P (dC, dI) ga_cl [(rd, .inr (3, [.ref sa, .int (nI n), .int (nI (rd_end tx n pq)), .int (nI (rd_val tx n pq)), .int st, .int (mq ||| ((1 : Int32) <<< ((nI (rd_val tx n pq)) &&& 31))), .int jo, .int vo, .int (bo_I re)])), (sa, .inl (cI, 120, .inl tx))] H := hP
          have hD : va_D A [(rd, .inr (3, [.ref sa, .int (nI n), .int (nI (rd_end tx n pq)), .int (nI (rd_val tx n pq)), .int st, .int (mq ||| ((1 : Int32) <<< ((nI (rd_val tx n pq)) &&& 31))), .int jo, .int vo, .int (bo_I re)])), (sa, .inl (cI, 120, .inl tx))] := hD
          refine lv_aload_n hx hb d_Rd_takeMonths_37 rfl (lv_at hl 0 rfl) ?_
          refine va_get (D := (dC, dI)) (ci := 3) (v := .int (nI (rd_val tx n pq))) (C := "PatternText$PatternReader") (T := F_Rd) (N := 9) hx hb hts iw_Rd hown hK hP 0 rfl rfl 3 (by decide) (hts _ kw_68) (fun _ h9 => h9) rfl d_Rd_takeMonths_38 ?_
          refine lv_iconst (v := 1) hx hb d_Rd_takeMonths_41 (by decide) ?_
          refine wy_iadd hx hb (rd_val tx n pq) 1 d_Rd_takeMonths_42 ?_
          refine lv_istore_n (lv' := [(1, .int (nI ((rd_val tx n pq) + 1))), (0, .ref rd), (2, .int (nI kk))]) hx hb d_Rd_takeMonths_43 rfl hl (by decide) rfl (fun ls hl => ?_)
          refine lv_aload_n hx hb d_Rd_takeMonths_44 rfl (lv_at hl 1 rfl) ?_
          refine vp_callSi (va_runV (As := []) (rest := []) ⟨hx, hb, hml, hown, hts⟩ (c_Rd_signHere l dC dI rd sa cI tx n (rd_end tx n pq) (nI (rd_val tx n pq)) st (mq ||| ((1 : Int32) <<< ((nI (rd_val tx n pq)) &&& 31))) jo vo re (by omega) (by omega)) (cwV 0 hts (ga_V kw_258 kw_260 kw_4 kw_35 (ga_in kw_261)) rfl rfl rfl (by decide +kernel) ⟨Nat.le_of_ble_eq_true rfl, Nat.le_of_ble_eq_true rfl⟩) (wy_preV 0 (hP.sub (ws' := [(rd, .inr (3, [.ref sa, .int (nI n), .int (nI (rd_end tx n pq)), .int (nI (rd_val tx n pq)), .int st, .int (mq ||| ((1 : Int32) <<< ((nI (rd_val tx n pq)) &&& 31))), .int jo, .int vo, .int (bo_I re)])), (sa, .inl (cI, 120, .inl tx))]) [0, 1] rfl) (hK.sub (tys' := [(cI, .int)]) [0] rfl) hN (ci := 3) rfl rfl rfl) rfl rfl hl.1 rfl (lv_room (Nat.le_of_ble_eq_true rfl)) d_Rd_takeMonths_45 ⟨Nat.le_of_ble_eq_true rfl, Nat.le_of_ble_eq_true rfl⟩).run (fun r_45 h_45 => ?_)
          subst h_45
          refine lv_bipush (v := 44) hx hb d_Rd_takeMonths_48 (by decide) ?_
          refine lv_icmp_eq (tgt := 55) hx hb d_Rd_takeMonths_50 (by decide) (fun c_50 => ?_) (fun c_50 => ?_)
          · refine lv_aload_n hx hb d_Rd_takeMonths_55 rfl (lv_at hl 1 rfl) ?_
            refine lv_dup hx hb d_Rd_takeMonths_56 rfl ?_
            refine va_get (D := (dC, dI)) (ci := 3) (v := .int (nI (rd_end tx n pq))) (C := "PatternText$PatternReader") (T := F_Rd) (N := 9) hx hb hts iw_Rd hown hK hP 0 rfl rfl 2 (by decide) (hts _ kw_66) (fun _ h9 => h9) rfl d_Rd_takeMonths_57 ?_
            refine lv_iconst (v := 1) hx hb d_Rd_takeMonths_60 (by decide) ?_
            refine wy_iadd hx hb (rd_end tx n pq) 1 d_Rd_takeMonths_61 ?_
            refine va_put (D := (dC, dI)) (ci := 3) (v := .int (nI ((rd_end tx n pq) + 1))) (ty := .int) (C := "PatternText$PatternReader") (T := F_Rd) (N := 9) hx hb hts iw_Rd t_Rd t_Rd_ok n_Rd hown hK hP hD hS 0 rfl rfl 2 (by decide) (hts _ kw_66) (fun _ h9 => h9) rfl (by decide +kernel) rfl rfl (Nat.le_of_ble_eq_true rfl) d_Rd_takeMonths_62 (fun H locs hP hD hS => ?_)
            have hP : va_P (dC, dI) ga_cl [(rd, .inr (3, [.ref sa, .int (nI n), .int (nI ((rd_end tx n pq) + 1)), .int (nI (rd_val tx n pq)), .int st, .int (mq ||| ((1 : Int32) <<< ((nI (rd_val tx n pq)) &&& 31))), .int jo, .int vo, .int (bo_I re)])), (sa, .inl (cI, 120, .inl tx))] H := hP
            have hD : va_D A [(rd, .inr (3, [.ref sa, .int (nI n), .int (nI ((rd_end tx n pq) + 1)), .int (nI (rd_val tx n pq)), .int st, .int (mq ||| ((1 : Int32) <<< ((nI (rd_val tx n pq)) &&& 31))), .int jo, .int vo, .int (bo_I re)])), (sa, .inl (cI, 120, .inl tx))] := hD
            refine wy_iinc (x := kk) (lv' := [(2, .int (nI (kk + 1))), (1, .int (nI ((rd_val tx n pq) + 1))), (0, .ref rd)]) hx hb d_Rd_takeMonths_65 hl (k := 2) rfl (by decide) rfl (fun ls hl => ?_)
            refine lv_goto (tgt := 4) hx hb d_Rd_takeMonths_68 (by decide) ?_
            exact ih_4 (kk + 1) ((rd_val tx n pq) + 1) ((rd_end tx n pq) + 1) (nI (rd_val tx n pq)) (mq ||| ((1 : Int32) <<< ((nI (rd_val tx n pq)) &&& 31))) (by omega) (rd_sg_lt c_50) (by have := (rd_end_le (tx := tx) h2).2.2; omega) (by rw [← hR, rd_mon_go (k := kk) (by omega), hb_14, decide_eq_true c_50]; rfl) (by omega) H locs hP hD hS ls (lv_sub hl [2, 1, 0] rfl)
          · refine lv_iconst (v := 1) hx hb d_Rd_takeMonths_53 (by decide) ?_
            rw [hQ]
            have z9 : rd_mon tx n 13 0 pp nu mo = (true, rd_end tx n pq, (nI (rd_val tx n pq)), mq ||| ((1 : Int32) <<< ((nI (rd_val tx n pq)) &&& 31))) := by rw [← hR, rd_mon_go (by omega), hb_14, decide_eq_false c_50]; rfl
            have q9 : (1 : Int32) = bo_I ((rd_mon tx n 13 0 pp nu mo).1) := by rw [z9]; rfl
            have e9 : ([(rd, .inr (3, [.ref sa, .int (nI n), .int (nI ((rd_mon tx n 13 0 pp nu mo).2.1)), .int ((rd_mon tx n 13 0 pp nu mo).2.2.1), .int st, .int ((rd_mon tx n 13 0 pp nu mo).2.2.2), .int jo, .int vo, .int (bo_I re)])), (sa, .inl (cI, 120, .inl tx))] : va_W) = [(rd, .inr (3, [.ref sa, .int (nI n), .int (nI (rd_end tx n pq)), .int (nI (rd_val tx n pq)), .int st, .int (mq ||| ((1 : Int32) <<< ((nI (rd_val tx n pq)) &&& 31))), .int jo, .int vo, .int (bo_I re)])), (sa, .inl (cI, 120, .inl tx))] := by rw [z9]
            exact W.zret (v := 1) hx hb hr rfl (fun t ht hW => ⟨⟨_, (), rfl, q9, by rw [ht, e9]; exact hP, va_K.moved hW.alike hK, by rw [e9]; exact hD⟩, hS.F ht⟩) hS.2.2 d_Rd_takeMonths_54
  exact loop_4 _ 0 0 pp nu mo (by omega) (by omega) (by omega) (rfl) (Nat.lt_succ_self _) s.heap ([]) hP hD hS ls (lv_sub hl [2, 1, 0] rfl)

set_option maxHeartbeats 4000000 in
set_option maxRecDepth 100000 in
/-- takeHowOften -/
theorem c_Rd_takeHowOften (l : Launch) (dC : Nat → ClassId) (dI : Nat → Nat → Nat) (sz : Nat) (ad : Nat → Nat) (av : Nat → Nat) (rd : Nat) (sa : Nat) (cI : ClassId) (tx : Nat → Int32) (n : Nat) (pp : Nat) (nu : Int32) (st : Int32) (mo : Int32) (jo : Int32) (vo : Int32) (re : Bool) (hn : n ≤ 120) (hp : pp ≤ n) : Met l y_Rd_takeHowOften w_Rd_takeHowOften ({ frames := 5, cells := 0, slots := 0, locals := 108 }) (va_Pc [.ref rd] (wy_ME (dC, dI) ga_cl [(rd, .inr (3, [.ref sa, .int (nI n), .int (nI pp), .int nu, .int st, .int mo, .int jo, .int vo, .int (bo_I re)])), (sa, .inl (cI, 120, .inl tx))] [(cI, .int)] sz ad av)) (va_Qi (fun (r : Int32) (_ : Unit) => r = bo_I ((rd_how tx n pp nu st).1)) (fun _ => wy_N (dC, dI) ga_cl [(cI, .int)] (va_A [(rd, .inr (3, [.ref sa, .int (nI n), .int (nI pp), .int nu, .int st, .int mo, .int jo, .int vo, .int (bo_I re)])), (sa, .inl (cI, 120, .inl tx))] sz) [(rd, .inr (3, [.ref sa, .int (nI n), .int (nI ((rd_how tx n pp nu st).2.1)), .int ((rd_how tx n pp nu st).2.2.1), .int ((rd_how tx n pp nu st).2.2.2), .int mo, .int jo, .int vo, .int (bo_I re)])), (sa, .inl (cI, 120, .inl tx))]) (va_A [(rd, .inr (3, [.ref sa, .int (nI n), .int (nI pp), .int nu, .int st, .int mo, .int jo, .int vo, .int (bo_I re)])), (sa, .inl (cI, 120, .inl tx))] sz)) 0 0 (va_A [(rd, .inr (3, [.ref sa, .int (nI n), .int (nI pp), .int nu, .int st, .int mo, .int jo, .int vo, .int (bo_I re)])), (sa, .inl (cI, 120, .inl tx))] sz) := by
  refine Met.ofW (cc := b_Rd_takeHowOften) (maxL := 1) (ret := (some .boolean)) (by decide) rfl ?_
  intro p e s m args below meth c s₁ B hml hv
  obtain ⟨rfl, hsz, hP, hK, hN, hE, hD0⟩ := hv
  have hx := B.exec
  have hb := B.bytes
  have hr := B.returns
  have hts : ∀ w ∈ ga_tbl, w.before _ s = true := fun w h => atoms_spec (ws := w_Rd_takeHowOften) B.pre w (List.mem_cons_of_mem _ h)
  have hown : s.vm.findClass "PatternText$PatternReader" = some m.cls := findClass_of_methodNamed B.named
  have hlocks := B.notSynchronized
  subst hsz
  have hD := hD0.self (sz := s.heap.size)
  generalize hAe : va_A [(rd, .inr (3, [.ref sa, .int (nI n), .int (nI pp), .int nu, .int st, .int mo, .int jo, .int vo, .int (bo_I re)])), (sa, .inl (cI, 120, .inl tx))] s.heap.size = A at hD hE ⊢
  have hA : ∀ q : Nat, s.heap.size ≤ q → A q := fun q h => by rw [← hAe]; exact Or.inr h
  have hS : va_S A s.heap s.heap [] := va_S.rf
  have hl := lv_entry ([.ref rd]) (n := 1) (Nat.le_of_ble_eq_true rfl)
  rw [lg_entry_eq]
  generalize (lg_sl ([.ref rd]) ++ List.replicate (1 - (lg_sl ([.ref rd])).length) Slot.unset).toArray = ls at hl ⊢
  have hl : lv_has ls 1 [(0, .ref rd)] := hl
  obtain ⟨Q0, hQ⟩ : ∃ Q0 : State → Prop, Q0 = MQ below (va_Qi (fun (r : Int32) (_ : Unit) => r = bo_I ((rd_how tx n pp nu st).1)) (fun _ => wy_N (dC, dI) ga_cl [(cI, .int)] A [(rd, .inr (3, [.ref sa, .int (nI n), .int (nI ((rd_how tx n pp nu st).2.1)), .int ((rd_how tx n pp nu st).2.2.1), .int ((rd_how tx n pp nu st).2.2.2), .int mo, .int jo, .int vo, .int (bo_I re)])), (sa, .inl (cI, 120, .inl tx))]) A) ([.ref rd] : List Value).toArray s 0 0 A := ⟨_, rfl⟩
  show W p l e ({ frames := 5, cells := 0, slots := 0, locals := 108 }) s m ([.ref rd] : List Value).toArray below meth c s.heap [] 0 0 (MQ below (va_Qi (fun (r : Int32) (_ : Unit) => r = bo_I ((rd_how tx n pp nu st).1)) (fun _ => wy_N (dC, dI) ga_cl [(cI, .int)] A [(rd, .inr (3, [.ref sa, .int (nI n), .int (nI ((rd_how tx n pp nu st).2.1)), .int ((rd_how tx n pp nu st).2.2.1), .int ((rd_how tx n pp nu st).2.2.2), .int mo, .int jo, .int vo, .int (bo_I re)])), (sa, .inl (cI, 120, .inl tx))]) A) ([.ref rd] : List Value).toArray s 0 0 A) (F0 m 0 ls [])
  rw [← hQ]
  refine lv_aload_n hx hb d_Rd_takeHowOften_0 rfl (lv_at hl 0 rfl) ?_
  refine va_ldcS hx hb hown (hE.2.2 0 (by decide)).2 d_Rd_takeHowOften_1 ?_
  have hF_3 := va_free (wc := [(rd, .inr (3, [.ref sa, .int (nI n), .int (nI pp), .int nu, .int st, .int mo, .int jo, .int vo, .int (bo_I re)])), (sa, .inl (cI, 120, .inl tx))]) hD hS hA [0, 1] rfl
  refine wy_calli (wr := []) (w1 := [(rd, .inr (3, [.ref sa, .int (nI n), .int (nI (cond (rd_word tx n pp (sv_w 0) (sv_len 0)) (pp + sv_len 0) pp)), .int nu, .int st, .int mo, .int jo, .int vo, .int (bo_I re)])), (sa, .inl (cI, 120, .inl tx))]) (va_runV (As := [.ref (ad 0)]) (rest := []) ⟨hx, hb, hml, hown, hts⟩ (c_Rd_takeWord l dC dI s.heap.size ad av rd sa cI tx n pp nu st mo jo vo re 0 (by omega) (by omega) (by decide)) (cwV 1 hts (ga_V kw_195 kw_197 kw_1 kw_35 (ga_in kw_198)) rfl rfl rfl (by decide +kernel) ⟨Nat.le_of_ble_eq_true rfl, Nat.le_of_ble_eq_true rfl⟩) (wy_mreVE 0 (hP.sub (ws' := [(rd, .inr (3, [.ref sa, .int (nI n), .int (nI pp), .int nu, .int st, .int mo, .int jo, .int vo, .int (bo_I re)])), (sa, .inl (cI, 120, .inl tx))]) [0, 1] rfl) (hK.sub (tys' := [(cI, .int)]) [0] rfl) hN (hD.sub (ws' := [(rd, .inr (3, [.ref sa, .int (nI n), .int (nI pp), .int nu, .int st, .int mo, .int jo, .int vo, .int (bo_I re)])), (sa, .inl (cI, 120, .inl tx))]) [0, 1] (by decide) rfl) hE hS hF_3 (ci := 3) rfl rfl rfl) rfl rfl hl.1 rfl (lv_room (Nat.le_of_ble_eq_true rfl)) d_Rd_takeHowOften_3 ⟨Nat.le_of_ble_eq_true rfl, Nat.le_of_ble_eq_true rfl⟩) hP hD hS hA [0, 1] [] rfl rfl (by decide) (by decide) (fun H locs hP hD hS => ?_)
  have hP := hP.sub (ws' := [(rd, .inr (3, [.ref sa, .int (nI n), .int (nI (cond (rd_word tx n pp (sv_w 0) (sv_len 0)) (pp + sv_len 0) pp)), .int nu, .int st, .int mo, .int jo, .int vo, .int (bo_I re)])), (sa, .inl (cI, 120, .inl tx))]) [0, 1] rfl
  have hD := hD.sub (ws' := [(rd, .inr (3, [.ref sa, .int (nI n), .int (nI (cond (rd_word tx n pp (sv_w 0) (sv_len 0)) (pp + sv_len 0) pp)), .int nu, .int st, .int mo, .int jo, .int vo, .int (bo_I re)])), (sa, .inl (cI, 120, .inl tx))]) [0, 1] (by decide) rfl
  rcases hb_3 : rd_word tx n pp (sv_w 0) (sv_len 0) with _ | _
  · rw [hb_3] at hP hD
    have hP : va_P (dC, dI) ga_cl [(rd, .inr (3, [.ref sa, .int (nI n), .int (nI pp), .int nu, .int st, .int mo, .int jo, .int vo, .int (bo_I re)])), (sa, .inl (cI, 120, .inl tx))] H := hP
    have hD : va_D A [(rd, .inr (3, [.ref sa, .int (nI n), .int (nI pp), .int nu, .int st, .int mo, .int jo, .int vo, .int (bo_I re)])), (sa, .inl (cI, 120, .inl tx))] := hD
    refine lv_if_eq (tgt := 33) hx hb d_Rd_takeHowOften_6 (by decide) (fun _ => ?_) (fun z9 => absurd z9 (by decide))
    refine lv_iconst (v := 0) hx hb d_Rd_takeHowOften_33 (by decide) ?_
    rw [hQ]
    have z9 : rd_how tx n pp nu st = (false, pp, nu, st) := by simp only [rd_how, hb_3, cond_true, cond_false]
    have q9 : (0 : Int32) = bo_I ((rd_how tx n pp nu st).1) := by rw [z9]; rfl
    have e9 : ([(rd, .inr (3, [.ref sa, .int (nI n), .int (nI ((rd_how tx n pp nu st).2.1)), .int ((rd_how tx n pp nu st).2.2.1), .int ((rd_how tx n pp nu st).2.2.2), .int mo, .int jo, .int vo, .int (bo_I re)])), (sa, .inl (cI, 120, .inl tx))] : va_W) = [(rd, .inr (3, [.ref sa, .int (nI n), .int (nI pp), .int nu, .int st, .int mo, .int jo, .int vo, .int (bo_I re)])), (sa, .inl (cI, 120, .inl tx))] := by rw [z9]
    exact W.zret (v := 0) hx hb hr rfl (fun t ht hW => ⟨⟨_, (), rfl, q9, by rw [ht, e9]; exact hP, va_K.moved hW.alike hK, by rw [e9]; exact hD⟩, hS.F ht⟩) hS.2.2 d_Rd_takeHowOften_34
  · rw [hb_3] at hP hD
    have hP : va_P (dC, dI) ga_cl [(rd, .inr (3, [.ref sa, .int (nI n), .int (nI (pp + sv_len 0)), .int nu, .int st, .int mo, .int jo, .int vo, .int (bo_I re)])), (sa, .inl (cI, 120, .inl tx))] H := hP
    have hD : va_D A [(rd, .inr (3, [.ref sa, .int (nI n), .int (nI (pp + sv_len 0)), .int nu, .int st, .int mo, .int jo, .int vo, .int (bo_I re)])), (sa, .inl (cI, 120, .inl tx))] := hD
    have l_3 := rd_word_le hb_3
    refine lv_if_eq (tgt := 33) hx hb d_Rd_takeHowOften_6 (by decide) (fun z9 => absurd z9 (by decide)) (fun _ => ?_)
    refine lv_aload_n hx hb d_Rd_takeHowOften_9 rfl (lv_at hl 0 rfl) ?_
    refine wy_calli (wr := []) (w1 := [(rd, .inr (3, [.ref sa, .int (nI n), .int (nI (cond (rd_sp tx n (pp + sv_len 0)) ((pp + sv_len 0) + 1) (pp + sv_len 0))), .int nu, .int st, .int mo, .int jo, .int vo, .int (bo_I re)])), (sa, .inl (cI, 120, .inl tx))]) (va_runV (As := []) (rest := []) ⟨hx, hb, hml, hown, hts⟩ (c_Rd_takeSpace l dC dI H.size rd sa cI tx n (pp + sv_len 0) nu st mo jo vo re (by omega) (by omega)) (cwV 0 hts (ga_V kw_254 kw_256 kw_3 kw_35 (ga_in kw_257)) rfl rfl rfl (by decide +kernel) ⟨Nat.le_of_ble_eq_true rfl, Nat.le_of_ble_eq_true rfl⟩) (wy_mreV 0 (hP.sub (ws' := [(rd, .inr (3, [.ref sa, .int (nI n), .int (nI (pp + sv_len 0)), .int nu, .int st, .int mo, .int jo, .int vo, .int (bo_I re)])), (sa, .inl (cI, 120, .inl tx))]) [0, 1] rfl) (hK.sub (tys' := [(cI, .int)]) [0] rfl) hN (hD.sub (ws' := [(rd, .inr (3, [.ref sa, .int (nI n), .int (nI (pp + sv_len 0)), .int nu, .int st, .int mo, .int jo, .int vo, .int (bo_I re)])), (sa, .inl (cI, 120, .inl tx))]) [0, 1] (by decide) rfl) (ci := 3) rfl rfl rfl) rfl rfl hl.1 rfl (lv_room (Nat.le_of_ble_eq_true rfl)) d_Rd_takeHowOften_10 ⟨Nat.le_of_ble_eq_true rfl, Nat.le_of_ble_eq_true rfl⟩) hP hD hS hA [0, 1] [] rfl rfl (by decide) (by decide) (fun H locs hP hD hS => ?_)
    have hP := hP.sub (ws' := [(rd, .inr (3, [.ref sa, .int (nI n), .int (nI (cond (rd_sp tx n (pp + sv_len 0)) ((pp + sv_len 0) + 1) (pp + sv_len 0))), .int nu, .int st, .int mo, .int jo, .int vo, .int (bo_I re)])), (sa, .inl (cI, 120, .inl tx))]) [0, 1] rfl
    have hD := hD.sub (ws' := [(rd, .inr (3, [.ref sa, .int (nI n), .int (nI (cond (rd_sp tx n (pp + sv_len 0)) ((pp + sv_len 0) + 1) (pp + sv_len 0))), .int nu, .int st, .int mo, .int jo, .int vo, .int (bo_I re)])), (sa, .inl (cI, 120, .inl tx))]) [0, 1] (by decide) rfl
    rcases hb_10 : rd_sp tx n (pp + sv_len 0) with _ | _
    · rw [hb_10] at hP hD
      have hP : va_P (dC, dI) ga_cl [(rd, .inr (3, [.ref sa, .int (nI n), .int (nI (pp + sv_len 0)), .int nu, .int st, .int mo, .int jo, .int vo, .int (bo_I re)])), (sa, .inl (cI, 120, .inl tx))] H := hP
      have hD : va_D A [(rd, .inr (3, [.ref sa, .int (nI n), .int (nI (pp + sv_len 0)), .int nu, .int st, .int mo, .int jo, .int vo, .int (bo_I re)])), (sa, .inl (cI, 120, .inl tx))] := hD
      refine lv_if_eq (tgt := 33) hx hb d_Rd_takeHowOften_13 (by decide) (fun _ => ?_) (fun z9 => absurd z9 (by decide))
      refine lv_iconst (v := 0) hx hb d_Rd_takeHowOften_33 (by decide) ?_
      rw [hQ]
      have z9 : rd_how tx n pp nu st = (false, pp + sv_len 0, nu, st) := by simp only [rd_how, hb_3, hb_10, cond_true, cond_false]
      have q9 : (0 : Int32) = bo_I ((rd_how tx n pp nu st).1) := by rw [z9]; rfl
      have e9 : ([(rd, .inr (3, [.ref sa, .int (nI n), .int (nI ((rd_how tx n pp nu st).2.1)), .int ((rd_how tx n pp nu st).2.2.1), .int ((rd_how tx n pp nu st).2.2.2), .int mo, .int jo, .int vo, .int (bo_I re)])), (sa, .inl (cI, 120, .inl tx))] : va_W) = [(rd, .inr (3, [.ref sa, .int (nI n), .int (nI (pp + sv_len 0)), .int nu, .int st, .int mo, .int jo, .int vo, .int (bo_I re)])), (sa, .inl (cI, 120, .inl tx))] := by rw [z9]
      exact W.zret (v := 0) hx hb hr rfl (fun t ht hW => ⟨⟨_, (), rfl, q9, by rw [ht, e9]; exact hP, va_K.moved hW.alike hK, by rw [e9]; exact hD⟩, hS.F ht⟩) hS.2.2 d_Rd_takeHowOften_34
    · rw [hb_10] at hP hD
      have hP : va_P (dC, dI) ga_cl [(rd, .inr (3, [.ref sa, .int (nI n), .int (nI ((pp + sv_len 0) + 1)), .int nu, .int st, .int mo, .int jo, .int vo, .int (bo_I re)])), (sa, .inl (cI, 120, .inl tx))] H := hP
      have hD : va_D A [(rd, .inr (3, [.ref sa, .int (nI n), .int (nI ((pp + sv_len 0) + 1)), .int nu, .int st, .int mo, .int jo, .int vo, .int (bo_I re)])), (sa, .inl (cI, 120, .inl tx))] := hD
      have l_10 := rd_sp_lt hb_10
      refine lv_if_eq (tgt := 33) hx hb d_Rd_takeHowOften_13 (by decide) (fun z9 => absurd z9 (by decide)) (fun _ => ?_)
      refine lv_aload_n hx hb d_Rd_takeHowOften_16 rfl (lv_at hl 0 rfl) ?_
      refine lv_iconst (v := 1) hx hb d_Rd_takeHowOften_17 (by decide) ?_
      refine lv_bipush (v := 99) hx hb d_Rd_takeHowOften_18 (by decide) ?_
      refine wy_calli (wr := []) (w1 := [(rd, .inr (3, [.ref sa, .int (nI n), .int (nI (cond (rd_num tx n 1 99 ((pp + sv_len 0) + 1)) (rd_end tx n ((pp + sv_len 0) + 1)) ((pp + sv_len 0) + 1))), .int (cond (rd_num tx n 1 99 ((pp + sv_len 0) + 1)) (nI (rd_val tx n ((pp + sv_len 0) + 1))) nu), .int st, .int mo, .int jo, .int vo, .int (bo_I re)])), (sa, .inl (cI, 120, .inl tx))]) (va_runV (As := [.int 1, .int 99]) (rest := []) ⟨hx, hb, hml, hown, hts⟩ (c_Rd_takeNumber l dC dI H.size rd sa cI tx n ((pp + sv_len 0) + 1) nu st mo jo vo re 1 99 (by omega) (by omega) (by omega) (by omega)) (cwV 2 hts (ga_V kw_262 kw_264 kw_5 kw_35 (ga_in kw_265)) rfl rfl rfl (by decide +kernel) ⟨Nat.le_of_ble_eq_true rfl, Nat.le_of_ble_eq_true rfl⟩) (wy_mreV 0 (hP.sub (ws' := [(rd, .inr (3, [.ref sa, .int (nI n), .int (nI ((pp + sv_len 0) + 1)), .int nu, .int st, .int mo, .int jo, .int vo, .int (bo_I re)])), (sa, .inl (cI, 120, .inl tx))]) [0, 1] rfl) (hK.sub (tys' := [(cI, .int)]) [0] rfl) hN (hD.sub (ws' := [(rd, .inr (3, [.ref sa, .int (nI n), .int (nI ((pp + sv_len 0) + 1)), .int nu, .int st, .int mo, .int jo, .int vo, .int (bo_I re)])), (sa, .inl (cI, 120, .inl tx))]) [0, 1] (by decide) rfl) (ci := 3) rfl rfl rfl) rfl rfl hl.1 rfl (lv_room (Nat.le_of_ble_eq_true rfl)) d_Rd_takeHowOften_20 ⟨Nat.le_of_ble_eq_true rfl, Nat.le_of_ble_eq_true rfl⟩) hP hD hS hA [0, 1] [] rfl rfl (by decide) (by decide) (fun H locs hP hD hS => ?_)
      have hP := hP.sub (ws' := [(rd, .inr (3, [.ref sa, .int (nI n), .int (nI (cond (rd_num tx n 1 99 ((pp + sv_len 0) + 1)) (rd_end tx n ((pp + sv_len 0) + 1)) ((pp + sv_len 0) + 1))), .int (cond (rd_num tx n 1 99 ((pp + sv_len 0) + 1)) (nI (rd_val tx n ((pp + sv_len 0) + 1))) nu), .int st, .int mo, .int jo, .int vo, .int (bo_I re)])), (sa, .inl (cI, 120, .inl tx))]) [0, 1] rfl
      have hD := hD.sub (ws' := [(rd, .inr (3, [.ref sa, .int (nI n), .int (nI (cond (rd_num tx n 1 99 ((pp + sv_len 0) + 1)) (rd_end tx n ((pp + sv_len 0) + 1)) ((pp + sv_len 0) + 1))), .int (cond (rd_num tx n 1 99 ((pp + sv_len 0) + 1)) (nI (rd_val tx n ((pp + sv_len 0) + 1))) nu), .int st, .int mo, .int jo, .int vo, .int (bo_I re)])), (sa, .inl (cI, 120, .inl tx))]) [0, 1] (by decide) rfl
      rcases hb_20 : rd_num tx n 1 99 ((pp + sv_len 0) + 1) with _ | _
      · rw [hb_20] at hP hD
        have hP : va_P (dC, dI) ga_cl [(rd, .inr (3, [.ref sa, .int (nI n), .int (nI ((pp + sv_len 0) + 1)), .int nu, .int st, .int mo, .int jo, .int vo, .int (bo_I re)])), (sa, .inl (cI, 120, .inl tx))] H := hP
        have hD : va_D A [(rd, .inr (3, [.ref sa, .int (nI n), .int (nI ((pp + sv_len 0) + 1)), .int nu, .int st, .int mo, .int jo, .int vo, .int (bo_I re)])), (sa, .inl (cI, 120, .inl tx))] := hD
        refine lv_if_eq (tgt := 33) hx hb d_Rd_takeHowOften_23 (by decide) (fun _ => ?_) (fun z9 => absurd z9 (by decide))
        refine lv_iconst (v := 0) hx hb d_Rd_takeHowOften_33 (by decide) ?_
        rw [hQ]
        have z9 : rd_how tx n pp nu st = (false, (pp + sv_len 0) + 1, nu, st) := by simp only [rd_how, hb_3, hb_10, hb_20, cond_true, cond_false]
        have q9 : (0 : Int32) = bo_I ((rd_how tx n pp nu st).1) := by rw [z9]; rfl
        have e9 : ([(rd, .inr (3, [.ref sa, .int (nI n), .int (nI ((rd_how tx n pp nu st).2.1)), .int ((rd_how tx n pp nu st).2.2.1), .int ((rd_how tx n pp nu st).2.2.2), .int mo, .int jo, .int vo, .int (bo_I re)])), (sa, .inl (cI, 120, .inl tx))] : va_W) = [(rd, .inr (3, [.ref sa, .int (nI n), .int (nI ((pp + sv_len 0) + 1)), .int nu, .int st, .int mo, .int jo, .int vo, .int (bo_I re)])), (sa, .inl (cI, 120, .inl tx))] := by rw [z9]
        exact W.zret (v := 0) hx hb hr rfl (fun t ht hW => ⟨⟨_, (), rfl, q9, by rw [ht, e9]; exact hP, va_K.moved hW.alike hK, by rw [e9]; exact hD⟩, hS.F ht⟩) hS.2.2 d_Rd_takeHowOften_34
      · rw [hb_20] at hP hD
        have hP : va_P (dC, dI) ga_cl [(rd, .inr (3, [.ref sa, .int (nI n), .int (nI (rd_end tx n ((pp + sv_len 0) + 1))), .int (nI (rd_val tx n ((pp + sv_len 0) + 1))), .int st, .int mo, .int jo, .int vo, .int (bo_I re)])), (sa, .inl (cI, 120, .inl tx))] H := hP
        have hD : va_D A [(rd, .inr (3, [.ref sa, .int (nI n), .int (nI (rd_end tx n ((pp + sv_len 0) + 1))), .int (nI (rd_val tx n ((pp + sv_len 0) + 1))), .int st, .int mo, .int jo, .int vo, .int (bo_I re)])), (sa, .inl (cI, 120, .inl tx))] := hD
        have l_20 := rd_end_le (tx := tx) (n := n) (p := pp + sv_len 0 + 1) l_10
        refine lv_if_eq (tgt := 33) hx hb d_Rd_takeHowOften_23 (by decide) (fun z9 => absurd z9 (by decide)) (fun _ => ?_)
        refine lv_aload_n hx hb d_Rd_takeHowOften_26 rfl (lv_at hl 0 rfl) ?_
        refine wy_calli (wr := []) (w1 := [(rd, .inr (3, [.ref sa, .int (nI n), .int (nI (cond (rd_sp tx n (rd_end tx n ((pp + sv_len 0) + 1))) ((rd_end tx n ((pp + sv_len 0) + 1)) + 1) (rd_end tx n ((pp + sv_len 0) + 1)))), .int (nI (rd_val tx n ((pp + sv_len 0) + 1))), .int st, .int mo, .int jo, .int vo, .int (bo_I re)])), (sa, .inl (cI, 120, .inl tx))]) (va_runV (As := []) (rest := []) ⟨hx, hb, hml, hown, hts⟩ (c_Rd_takeSpace l dC dI H.size rd sa cI tx n (rd_end tx n ((pp + sv_len 0) + 1)) (nI (rd_val tx n ((pp + sv_len 0) + 1))) st mo jo vo re (by omega) (by omega)) (cwV 0 hts (ga_V kw_254 kw_256 kw_3 kw_35 (ga_in kw_257)) rfl rfl rfl (by decide +kernel) ⟨Nat.le_of_ble_eq_true rfl, Nat.le_of_ble_eq_true rfl⟩) (wy_mreV 0 (hP.sub (ws' := [(rd, .inr (3, [.ref sa, .int (nI n), .int (nI (rd_end tx n ((pp + sv_len 0) + 1))), .int (nI (rd_val tx n ((pp + sv_len 0) + 1))), .int st, .int mo, .int jo, .int vo, .int (bo_I re)])), (sa, .inl (cI, 120, .inl tx))]) [0, 1] rfl) (hK.sub (tys' := [(cI, .int)]) [0] rfl) hN (hD.sub (ws' := [(rd, .inr (3, [.ref sa, .int (nI n), .int (nI (rd_end tx n ((pp + sv_len 0) + 1))), .int (nI (rd_val tx n ((pp + sv_len 0) + 1))), .int st, .int mo, .int jo, .int vo, .int (bo_I re)])), (sa, .inl (cI, 120, .inl tx))]) [0, 1] (by decide) rfl) (ci := 3) rfl rfl rfl) rfl rfl hl.1 rfl (lv_room (Nat.le_of_ble_eq_true rfl)) d_Rd_takeHowOften_27 ⟨Nat.le_of_ble_eq_true rfl, Nat.le_of_ble_eq_true rfl⟩) hP hD hS hA [0, 1] [] rfl rfl (by decide) (by decide) (fun H locs hP hD hS => ?_)
        have hP := hP.sub (ws' := [(rd, .inr (3, [.ref sa, .int (nI n), .int (nI (cond (rd_sp tx n (rd_end tx n ((pp + sv_len 0) + 1))) ((rd_end tx n ((pp + sv_len 0) + 1)) + 1) (rd_end tx n ((pp + sv_len 0) + 1)))), .int (nI (rd_val tx n ((pp + sv_len 0) + 1))), .int st, .int mo, .int jo, .int vo, .int (bo_I re)])), (sa, .inl (cI, 120, .inl tx))]) [0, 1] rfl
        have hD := hD.sub (ws' := [(rd, .inr (3, [.ref sa, .int (nI n), .int (nI (cond (rd_sp tx n (rd_end tx n ((pp + sv_len 0) + 1))) ((rd_end tx n ((pp + sv_len 0) + 1)) + 1) (rd_end tx n ((pp + sv_len 0) + 1)))), .int (nI (rd_val tx n ((pp + sv_len 0) + 1))), .int st, .int mo, .int jo, .int vo, .int (bo_I re)])), (sa, .inl (cI, 120, .inl tx))]) [0, 1] (by decide) rfl
        rcases hb_27 : rd_sp tx n (rd_end tx n ((pp + sv_len 0) + 1)) with _ | _
        · rw [hb_27] at hP hD
          have hP : va_P (dC, dI) ga_cl [(rd, .inr (3, [.ref sa, .int (nI n), .int (nI (rd_end tx n ((pp + sv_len 0) + 1))), .int (nI (rd_val tx n ((pp + sv_len 0) + 1))), .int st, .int mo, .int jo, .int vo, .int (bo_I re)])), (sa, .inl (cI, 120, .inl tx))] H := hP
          have hD : va_D A [(rd, .inr (3, [.ref sa, .int (nI n), .int (nI (rd_end tx n ((pp + sv_len 0) + 1))), .int (nI (rd_val tx n ((pp + sv_len 0) + 1))), .int st, .int mo, .int jo, .int vo, .int (bo_I re)])), (sa, .inl (cI, 120, .inl tx))] := hD
          refine lv_if_ne (tgt := 35) hx hb d_Rd_takeHowOften_30 (by decide) (fun z9 => absurd z9 (by decide)) (fun _ => ?_)
          refine lv_iconst (v := 0) hx hb d_Rd_takeHowOften_33 (by decide) ?_
          rw [hQ]
          have z9 : rd_how tx n pp nu st = (false, rd_end tx n ((pp + sv_len 0) + 1), (nI (rd_val tx n ((pp + sv_len 0) + 1))), st) := by simp only [rd_how, hb_3, hb_10, hb_20, hb_27, cond_true, cond_false]
          have q9 : (0 : Int32) = bo_I ((rd_how tx n pp nu st).1) := by rw [z9]; rfl
          have e9 : ([(rd, .inr (3, [.ref sa, .int (nI n), .int (nI ((rd_how tx n pp nu st).2.1)), .int ((rd_how tx n pp nu st).2.2.1), .int ((rd_how tx n pp nu st).2.2.2), .int mo, .int jo, .int vo, .int (bo_I re)])), (sa, .inl (cI, 120, .inl tx))] : va_W) = [(rd, .inr (3, [.ref sa, .int (nI n), .int (nI (rd_end tx n ((pp + sv_len 0) + 1))), .int (nI (rd_val tx n ((pp + sv_len 0) + 1))), .int st, .int mo, .int jo, .int vo, .int (bo_I re)])), (sa, .inl (cI, 120, .inl tx))] := by rw [z9]
          exact W.zret (v := 0) hx hb hr rfl (fun t ht hW => ⟨⟨_, (), rfl, q9, by rw [ht, e9]; exact hP, va_K.moved hW.alike hK, by rw [e9]; exact hD⟩, hS.F ht⟩) hS.2.2 d_Rd_takeHowOften_34
        · rw [hb_27] at hP hD
          have hP : va_P (dC, dI) ga_cl [(rd, .inr (3, [.ref sa, .int (nI n), .int (nI ((rd_end tx n ((pp + sv_len 0) + 1)) + 1)), .int (nI (rd_val tx n ((pp + sv_len 0) + 1))), .int st, .int mo, .int jo, .int vo, .int (bo_I re)])), (sa, .inl (cI, 120, .inl tx))] H := hP
          have hD : va_D A [(rd, .inr (3, [.ref sa, .int (nI n), .int (nI ((rd_end tx n ((pp + sv_len 0) + 1)) + 1)), .int (nI (rd_val tx n ((pp + sv_len 0) + 1))), .int st, .int mo, .int jo, .int vo, .int (bo_I re)])), (sa, .inl (cI, 120, .inl tx))] := hD
          have l_27 := rd_sp_lt hb_27
          refine lv_if_ne (tgt := 35) hx hb d_Rd_takeHowOften_30 (by decide) (fun _ => ?_) (fun z9 => absurd z9 (by decide))
          refine lv_aload_n hx hb d_Rd_takeHowOften_35 rfl (lv_at hl 0 rfl) ?_
          refine va_ldcS hx hb hown (hE.2.2 1 (by decide)).2 d_Rd_takeHowOften_36 ?_
          have hF_38 := va_free (wc := [(rd, .inr (3, [.ref sa, .int (nI n), .int (nI ((rd_end tx n ((pp + sv_len 0) + 1)) + 1)), .int (nI (rd_val tx n ((pp + sv_len 0) + 1))), .int st, .int mo, .int jo, .int vo, .int (bo_I re)])), (sa, .inl (cI, 120, .inl tx))]) hD hS hA [0, 1] rfl
          refine wy_calli (wr := []) (w1 := [(rd, .inr (3, [.ref sa, .int (nI n), .int (nI (cond (rd_word tx n ((rd_end tx n ((pp + sv_len 0) + 1)) + 1) (sv_w 1) (sv_len 1)) (((rd_end tx n ((pp + sv_len 0) + 1)) + 1) + sv_len 1) ((rd_end tx n ((pp + sv_len 0) + 1)) + 1))), .int (nI (rd_val tx n ((pp + sv_len 0) + 1))), .int st, .int mo, .int jo, .int vo, .int (bo_I re)])), (sa, .inl (cI, 120, .inl tx))]) (va_runV (As := [.ref (ad 1)]) (rest := []) ⟨hx, hb, hml, hown, hts⟩ (c_Rd_takeWord l dC dI H.size ad av rd sa cI tx n ((rd_end tx n ((pp + sv_len 0) + 1)) + 1) (nI (rd_val tx n ((pp + sv_len 0) + 1))) st mo jo vo re 1 (by omega) (by omega) (by decide)) (cwV 1 hts (ga_V kw_195 kw_197 kw_1 kw_35 (ga_in kw_198)) rfl rfl rfl (by decide +kernel) ⟨Nat.le_of_ble_eq_true rfl, Nat.le_of_ble_eq_true rfl⟩) (wy_mreVE 0 (hP.sub (ws' := [(rd, .inr (3, [.ref sa, .int (nI n), .int (nI ((rd_end tx n ((pp + sv_len 0) + 1)) + 1)), .int (nI (rd_val tx n ((pp + sv_len 0) + 1))), .int st, .int mo, .int jo, .int vo, .int (bo_I re)])), (sa, .inl (cI, 120, .inl tx))]) [0, 1] rfl) (hK.sub (tys' := [(cI, .int)]) [0] rfl) hN (hD.sub (ws' := [(rd, .inr (3, [.ref sa, .int (nI n), .int (nI ((rd_end tx n ((pp + sv_len 0) + 1)) + 1)), .int (nI (rd_val tx n ((pp + sv_len 0) + 1))), .int st, .int mo, .int jo, .int vo, .int (bo_I re)])), (sa, .inl (cI, 120, .inl tx))]) [0, 1] (by decide) rfl) hE hS hF_38 (ci := 3) rfl rfl rfl) rfl rfl hl.1 rfl (lv_room (Nat.le_of_ble_eq_true rfl)) d_Rd_takeHowOften_38 ⟨Nat.le_of_ble_eq_true rfl, Nat.le_of_ble_eq_true rfl⟩) hP hD hS hA [0, 1] [] rfl rfl (by decide) (by decide) (fun H locs hP hD hS => ?_)
          have hP := hP.sub (ws' := [(rd, .inr (3, [.ref sa, .int (nI n), .int (nI (cond (rd_word tx n ((rd_end tx n ((pp + sv_len 0) + 1)) + 1) (sv_w 1) (sv_len 1)) (((rd_end tx n ((pp + sv_len 0) + 1)) + 1) + sv_len 1) ((rd_end tx n ((pp + sv_len 0) + 1)) + 1))), .int (nI (rd_val tx n ((pp + sv_len 0) + 1))), .int st, .int mo, .int jo, .int vo, .int (bo_I re)])), (sa, .inl (cI, 120, .inl tx))]) [0, 1] rfl
          have hD := hD.sub (ws' := [(rd, .inr (3, [.ref sa, .int (nI n), .int (nI (cond (rd_word tx n ((rd_end tx n ((pp + sv_len 0) + 1)) + 1) (sv_w 1) (sv_len 1)) (((rd_end tx n ((pp + sv_len 0) + 1)) + 1) + sv_len 1) ((rd_end tx n ((pp + sv_len 0) + 1)) + 1))), .int (nI (rd_val tx n ((pp + sv_len 0) + 1))), .int st, .int mo, .int jo, .int vo, .int (bo_I re)])), (sa, .inl (cI, 120, .inl tx))]) [0, 1] (by decide) rfl
          rcases hb_38 : rd_word tx n ((rd_end tx n ((pp + sv_len 0) + 1)) + 1) (sv_w 1) (sv_len 1) with _ | _
          · rw [hb_38] at hP hD
            have hP : va_P (dC, dI) ga_cl [(rd, .inr (3, [.ref sa, .int (nI n), .int (nI ((rd_end tx n ((pp + sv_len 0) + 1)) + 1)), .int (nI (rd_val tx n ((pp + sv_len 0) + 1))), .int st, .int mo, .int jo, .int vo, .int (bo_I re)])), (sa, .inl (cI, 120, .inl tx))] H := hP
            have hD : va_D A [(rd, .inr (3, [.ref sa, .int (nI n), .int (nI ((rd_end tx n ((pp + sv_len 0) + 1)) + 1)), .int (nI (rd_val tx n ((pp + sv_len 0) + 1))), .int st, .int mo, .int jo, .int vo, .int (bo_I re)])), (sa, .inl (cI, 120, .inl tx))] := hD
            refine lv_if_eq (tgt := 55) hx hb d_Rd_takeHowOften_41 (by decide) (fun _ => ?_) (fun z9 => absurd z9 (by decide))
            refine lv_aload_n hx hb d_Rd_takeHowOften_55 rfl (lv_at hl 0 rfl) ?_
            refine va_ldcS hx hb hown (hE.2.2 2 (by decide)).2 d_Rd_takeHowOften_56 ?_
            have hF_58 := va_free (wc := [(rd, .inr (3, [.ref sa, .int (nI n), .int (nI ((rd_end tx n ((pp + sv_len 0) + 1)) + 1)), .int (nI (rd_val tx n ((pp + sv_len 0) + 1))), .int st, .int mo, .int jo, .int vo, .int (bo_I re)])), (sa, .inl (cI, 120, .inl tx))]) hD hS hA [0, 1] rfl
            refine wy_calli (wr := []) (w1 := [(rd, .inr (3, [.ref sa, .int (nI n), .int (nI (cond (rd_word tx n ((rd_end tx n ((pp + sv_len 0) + 1)) + 1) (sv_w 2) (sv_len 2)) (((rd_end tx n ((pp + sv_len 0) + 1)) + 1) + sv_len 2) ((rd_end tx n ((pp + sv_len 0) + 1)) + 1))), .int (nI (rd_val tx n ((pp + sv_len 0) + 1))), .int st, .int mo, .int jo, .int vo, .int (bo_I re)])), (sa, .inl (cI, 120, .inl tx))]) (va_runV (As := [.ref (ad 2)]) (rest := []) ⟨hx, hb, hml, hown, hts⟩ (c_Rd_takeWord l dC dI H.size ad av rd sa cI tx n ((rd_end tx n ((pp + sv_len 0) + 1)) + 1) (nI (rd_val tx n ((pp + sv_len 0) + 1))) st mo jo vo re 2 (by omega) (by omega) (by decide)) (cwV 1 hts (ga_V kw_195 kw_197 kw_1 kw_35 (ga_in kw_198)) rfl rfl rfl (by decide +kernel) ⟨Nat.le_of_ble_eq_true rfl, Nat.le_of_ble_eq_true rfl⟩) (wy_mreVE 0 (hP.sub (ws' := [(rd, .inr (3, [.ref sa, .int (nI n), .int (nI ((rd_end tx n ((pp + sv_len 0) + 1)) + 1)), .int (nI (rd_val tx n ((pp + sv_len 0) + 1))), .int st, .int mo, .int jo, .int vo, .int (bo_I re)])), (sa, .inl (cI, 120, .inl tx))]) [0, 1] rfl) (hK.sub (tys' := [(cI, .int)]) [0] rfl) hN (hD.sub (ws' := [(rd, .inr (3, [.ref sa, .int (nI n), .int (nI ((rd_end tx n ((pp + sv_len 0) + 1)) + 1)), .int (nI (rd_val tx n ((pp + sv_len 0) + 1))), .int st, .int mo, .int jo, .int vo, .int (bo_I re)])), (sa, .inl (cI, 120, .inl tx))]) [0, 1] (by decide) rfl) hE hS hF_58 (ci := 3) rfl rfl rfl) rfl rfl hl.1 rfl (lv_room (Nat.le_of_ble_eq_true rfl)) d_Rd_takeHowOften_58 ⟨Nat.le_of_ble_eq_true rfl, Nat.le_of_ble_eq_true rfl⟩) hP hD hS hA [0, 1] [] rfl rfl (by decide) (by decide) (fun H locs hP hD hS => ?_)
            have hP := hP.sub (ws' := [(rd, .inr (3, [.ref sa, .int (nI n), .int (nI (cond (rd_word tx n ((rd_end tx n ((pp + sv_len 0) + 1)) + 1) (sv_w 2) (sv_len 2)) (((rd_end tx n ((pp + sv_len 0) + 1)) + 1) + sv_len 2) ((rd_end tx n ((pp + sv_len 0) + 1)) + 1))), .int (nI (rd_val tx n ((pp + sv_len 0) + 1))), .int st, .int mo, .int jo, .int vo, .int (bo_I re)])), (sa, .inl (cI, 120, .inl tx))]) [0, 1] rfl
            have hD := hD.sub (ws' := [(rd, .inr (3, [.ref sa, .int (nI n), .int (nI (cond (rd_word tx n ((rd_end tx n ((pp + sv_len 0) + 1)) + 1) (sv_w 2) (sv_len 2)) (((rd_end tx n ((pp + sv_len 0) + 1)) + 1) + sv_len 2) ((rd_end tx n ((pp + sv_len 0) + 1)) + 1))), .int (nI (rd_val tx n ((pp + sv_len 0) + 1))), .int st, .int mo, .int jo, .int vo, .int (bo_I re)])), (sa, .inl (cI, 120, .inl tx))]) [0, 1] (by decide) rfl
            rcases hb_58 : rd_word tx n ((rd_end tx n ((pp + sv_len 0) + 1)) + 1) (sv_w 2) (sv_len 2) with _ | _
            · rw [hb_58] at hP hD
              have hP : va_P (dC, dI) ga_cl [(rd, .inr (3, [.ref sa, .int (nI n), .int (nI ((rd_end tx n ((pp + sv_len 0) + 1)) + 1)), .int (nI (rd_val tx n ((pp + sv_len 0) + 1))), .int st, .int mo, .int jo, .int vo, .int (bo_I re)])), (sa, .inl (cI, 120, .inl tx))] H := hP
              have hD : va_D A [(rd, .inr (3, [.ref sa, .int (nI n), .int (nI ((rd_end tx n ((pp + sv_len 0) + 1)) + 1)), .int (nI (rd_val tx n ((pp + sv_len 0) + 1))), .int st, .int mo, .int jo, .int vo, .int (bo_I re)])), (sa, .inl (cI, 120, .inl tx))] := hD
              refine lv_if_eq (tgt := 78) hx hb d_Rd_takeHowOften_61 (by decide) (fun _ => ?_) (fun z9 => absurd z9 (by decide))
              refine lv_aload_n hx hb d_Rd_takeHowOften_78 rfl (lv_at hl 0 rfl) ?_
              refine va_ldcS hx hb hown (hE.2.2 3 (by decide)).2 d_Rd_takeHowOften_79 ?_
              have hF_81 := va_free (wc := [(rd, .inr (3, [.ref sa, .int (nI n), .int (nI ((rd_end tx n ((pp + sv_len 0) + 1)) + 1)), .int (nI (rd_val tx n ((pp + sv_len 0) + 1))), .int st, .int mo, .int jo, .int vo, .int (bo_I re)])), (sa, .inl (cI, 120, .inl tx))]) hD hS hA [0, 1] rfl
              refine wy_calli (wr := []) (w1 := [(rd, .inr (3, [.ref sa, .int (nI n), .int (nI (cond (rd_word tx n ((rd_end tx n ((pp + sv_len 0) + 1)) + 1) (sv_w 3) (sv_len 3)) (((rd_end tx n ((pp + sv_len 0) + 1)) + 1) + sv_len 3) ((rd_end tx n ((pp + sv_len 0) + 1)) + 1))), .int (nI (rd_val tx n ((pp + sv_len 0) + 1))), .int st, .int mo, .int jo, .int vo, .int (bo_I re)])), (sa, .inl (cI, 120, .inl tx))]) (va_runV (As := [.ref (ad 3)]) (rest := []) ⟨hx, hb, hml, hown, hts⟩ (c_Rd_takeWord l dC dI H.size ad av rd sa cI tx n ((rd_end tx n ((pp + sv_len 0) + 1)) + 1) (nI (rd_val tx n ((pp + sv_len 0) + 1))) st mo jo vo re 3 (by omega) (by omega) (by decide)) (cwV 1 hts (ga_V kw_195 kw_197 kw_1 kw_35 (ga_in kw_198)) rfl rfl rfl (by decide +kernel) ⟨Nat.le_of_ble_eq_true rfl, Nat.le_of_ble_eq_true rfl⟩) (wy_mreVE 0 (hP.sub (ws' := [(rd, .inr (3, [.ref sa, .int (nI n), .int (nI ((rd_end tx n ((pp + sv_len 0) + 1)) + 1)), .int (nI (rd_val tx n ((pp + sv_len 0) + 1))), .int st, .int mo, .int jo, .int vo, .int (bo_I re)])), (sa, .inl (cI, 120, .inl tx))]) [0, 1] rfl) (hK.sub (tys' := [(cI, .int)]) [0] rfl) hN (hD.sub (ws' := [(rd, .inr (3, [.ref sa, .int (nI n), .int (nI ((rd_end tx n ((pp + sv_len 0) + 1)) + 1)), .int (nI (rd_val tx n ((pp + sv_len 0) + 1))), .int st, .int mo, .int jo, .int vo, .int (bo_I re)])), (sa, .inl (cI, 120, .inl tx))]) [0, 1] (by decide) rfl) hE hS hF_81 (ci := 3) rfl rfl rfl) rfl rfl hl.1 rfl (lv_room (Nat.le_of_ble_eq_true rfl)) d_Rd_takeHowOften_81 ⟨Nat.le_of_ble_eq_true rfl, Nat.le_of_ble_eq_true rfl⟩) hP hD hS hA [0, 1] [] rfl rfl (by decide) (by decide) (fun H locs hP hD hS => ?_)
              have hP := hP.sub (ws' := [(rd, .inr (3, [.ref sa, .int (nI n), .int (nI (cond (rd_word tx n ((rd_end tx n ((pp + sv_len 0) + 1)) + 1) (sv_w 3) (sv_len 3)) (((rd_end tx n ((pp + sv_len 0) + 1)) + 1) + sv_len 3) ((rd_end tx n ((pp + sv_len 0) + 1)) + 1))), .int (nI (rd_val tx n ((pp + sv_len 0) + 1))), .int st, .int mo, .int jo, .int vo, .int (bo_I re)])), (sa, .inl (cI, 120, .inl tx))]) [0, 1] rfl
              have hD := hD.sub (ws' := [(rd, .inr (3, [.ref sa, .int (nI n), .int (nI (cond (rd_word tx n ((rd_end tx n ((pp + sv_len 0) + 1)) + 1) (sv_w 3) (sv_len 3)) (((rd_end tx n ((pp + sv_len 0) + 1)) + 1) + sv_len 3) ((rd_end tx n ((pp + sv_len 0) + 1)) + 1))), .int (nI (rd_val tx n ((pp + sv_len 0) + 1))), .int st, .int mo, .int jo, .int vo, .int (bo_I re)])), (sa, .inl (cI, 120, .inl tx))]) [0, 1] (by decide) rfl
              rcases hb_81 : rd_word tx n ((rd_end tx n ((pp + sv_len 0) + 1)) + 1) (sv_w 3) (sv_len 3) with _ | _
              · rw [hb_81] at hP hD
                have hP : va_P (dC, dI) ga_cl [(rd, .inr (3, [.ref sa, .int (nI n), .int (nI ((rd_end tx n ((pp + sv_len 0) + 1)) + 1)), .int (nI (rd_val tx n ((pp + sv_len 0) + 1))), .int st, .int mo, .int jo, .int vo, .int (bo_I re)])), (sa, .inl (cI, 120, .inl tx))] H := hP
                have hD : va_D A [(rd, .inr (3, [.ref sa, .int (nI n), .int (nI ((rd_end tx n ((pp + sv_len 0) + 1)) + 1)), .int (nI (rd_val tx n ((pp + sv_len 0) + 1))), .int st, .int mo, .int jo, .int vo, .int (bo_I re)])), (sa, .inl (cI, 120, .inl tx))] := hD
                refine lv_if_eq (tgt := 101) hx hb d_Rd_takeHowOften_84 (by decide) (fun _ => ?_) (fun z9 => absurd z9 (by decide))
                refine lv_iconst (v := 0) hx hb d_Rd_takeHowOften_101 (by decide) ?_
                rw [hQ]
                have z9 : rd_how tx n pp nu st = (false, (rd_end tx n ((pp + sv_len 0) + 1)) + 1, (nI (rd_val tx n ((pp + sv_len 0) + 1))), st) := by simp only [rd_how, hb_3, hb_10, hb_20, hb_27, hb_38, hb_58, hb_81, cond_true, cond_false]
                have q9 : (0 : Int32) = bo_I ((rd_how tx n pp nu st).1) := by rw [z9]; rfl
                have e9 : ([(rd, .inr (3, [.ref sa, .int (nI n), .int (nI ((rd_how tx n pp nu st).2.1)), .int ((rd_how tx n pp nu st).2.2.1), .int ((rd_how tx n pp nu st).2.2.2), .int mo, .int jo, .int vo, .int (bo_I re)])), (sa, .inl (cI, 120, .inl tx))] : va_W) = [(rd, .inr (3, [.ref sa, .int (nI n), .int (nI ((rd_end tx n ((pp + sv_len 0) + 1)) + 1)), .int (nI (rd_val tx n ((pp + sv_len 0) + 1))), .int st, .int mo, .int jo, .int vo, .int (bo_I re)])), (sa, .inl (cI, 120, .inl tx))] := by rw [z9]
                exact W.zret (v := 0) hx hb hr rfl (fun t ht hW => ⟨⟨_, (), rfl, q9, by rw [ht, e9]; exact hP, va_K.moved hW.alike hK, by rw [e9]; exact hD⟩, hS.F ht⟩) hS.2.2 d_Rd_takeHowOften_102
              · rw [hb_81] at hP hD
                have hP : va_P (dC, dI) ga_cl [(rd, .inr (3, [.ref sa, .int (nI n), .int (nI (((rd_end tx n ((pp + sv_len 0) + 1)) + 1) + sv_len 3)), .int (nI (rd_val tx n ((pp + sv_len 0) + 1))), .int st, .int mo, .int jo, .int vo, .int (bo_I re)])), (sa, .inl (cI, 120, .inl tx))] H := hP
                have hD : va_D A [(rd, .inr (3, [.ref sa, .int (nI n), .int (nI (((rd_end tx n ((pp + sv_len 0) + 1)) + 1) + sv_len 3)), .int (nI (rd_val tx n ((pp + sv_len 0) + 1))), .int st, .int mo, .int jo, .int vo, .int (bo_I re)])), (sa, .inl (cI, 120, .inl tx))] := hD
                refine lv_if_eq (tgt := 101) hx hb d_Rd_takeHowOften_84 (by decide) (fun z9 => absurd z9 (by decide)) (fun _ => ?_)
                refine lv_aload_n hx hb d_Rd_takeHowOften_87 rfl (lv_at hl 0 rfl) ?_
                refine lv_aload_n hx hb d_Rd_takeHowOften_88 rfl (lv_at hl 0 rfl) ?_
                refine va_get (D := (dC, dI)) (ci := 3) (v := .int (nI (rd_val tx n ((pp + sv_len 0) + 1)))) (C := "PatternText$PatternReader") (T := F_Rd) (N := 9) hx hb hts iw_Rd hown hK hP 0 rfl rfl 3 (by decide) (hts _ kw_68) (fun _ h9 => h9) rfl d_Rd_takeHowOften_89 ?_
                refine lv_bipush (v := 30) hx hb d_Rd_takeHowOften_92 (by decide) ?_
                refine wy_imul hx hb (rd_val tx n ((pp + sv_len 0) + 1)) 30 d_Rd_takeHowOften_94 ?_
                refine va_put (D := (dC, dI)) (ci := 3) (v := .int (nI ((rd_val tx n ((pp + sv_len 0) + 1)) * 30))) (ty := .int) (C := "PatternText$PatternReader") (T := F_Rd) (N := 9) hx hb hts iw_Rd t_Rd t_Rd_ok n_Rd hown hK hP hD hS 0 rfl rfl 4 (by decide) (hts _ kw_69) (fun _ h9 => h9) rfl (by decide +kernel) rfl rfl (Nat.le_of_ble_eq_true rfl) d_Rd_takeHowOften_95 (fun H locs hP hD hS => ?_)
                have hP : va_P (dC, dI) ga_cl [(rd, .inr (3, [.ref sa, .int (nI n), .int (nI (((rd_end tx n ((pp + sv_len 0) + 1)) + 1) + sv_len 3)), .int (nI (rd_val tx n ((pp + sv_len 0) + 1))), .int (nI ((rd_val tx n ((pp + sv_len 0) + 1)) * 30)), .int mo, .int jo, .int vo, .int (bo_I re)])), (sa, .inl (cI, 120, .inl tx))] H := hP
                have hD : va_D A [(rd, .inr (3, [.ref sa, .int (nI n), .int (nI (((rd_end tx n ((pp + sv_len 0) + 1)) + 1) + sv_len 3)), .int (nI (rd_val tx n ((pp + sv_len 0) + 1))), .int (nI ((rd_val tx n ((pp + sv_len 0) + 1)) * 30)), .int mo, .int jo, .int vo, .int (bo_I re)])), (sa, .inl (cI, 120, .inl tx))] := hD
                refine lv_goto (tgt := 103) hx hb d_Rd_takeHowOften_98 (by decide) ?_
                refine lv_iconst (v := 1) hx hb d_Rd_takeHowOften_103 (by decide) ?_
                rw [hQ]
                have z9 : rd_how tx n pp nu st = (true, ((rd_end tx n ((pp + sv_len 0) + 1)) + 1) + sv_len 3, (nI (rd_val tx n ((pp + sv_len 0) + 1))), nI ((rd_val tx n ((pp + sv_len 0) + 1)) * 30)) := by simp only [rd_how, hb_3, hb_10, hb_20, hb_27, hb_38, hb_58, hb_81, cond_true, cond_false]
                have q9 : (1 : Int32) = bo_I ((rd_how tx n pp nu st).1) := by rw [z9]; rfl
                have e9 : ([(rd, .inr (3, [.ref sa, .int (nI n), .int (nI ((rd_how tx n pp nu st).2.1)), .int ((rd_how tx n pp nu st).2.2.1), .int ((rd_how tx n pp nu st).2.2.2), .int mo, .int jo, .int vo, .int (bo_I re)])), (sa, .inl (cI, 120, .inl tx))] : va_W) = [(rd, .inr (3, [.ref sa, .int (nI n), .int (nI (((rd_end tx n ((pp + sv_len 0) + 1)) + 1) + sv_len 3)), .int (nI (rd_val tx n ((pp + sv_len 0) + 1))), .int (nI ((rd_val tx n ((pp + sv_len 0) + 1)) * 30)), .int mo, .int jo, .int vo, .int (bo_I re)])), (sa, .inl (cI, 120, .inl tx))] := by rw [z9]
                exact W.zret (v := 1) hx hb hr rfl (fun t ht hW => ⟨⟨_, (), rfl, q9, by rw [ht, e9]; exact hP, va_K.moved hW.alike hK, by rw [e9]; exact hD⟩, hS.F ht⟩) hS.2.2 d_Rd_takeHowOften_104
            · rw [hb_58] at hP hD
              have hP : va_P (dC, dI) ga_cl [(rd, .inr (3, [.ref sa, .int (nI n), .int (nI (((rd_end tx n ((pp + sv_len 0) + 1)) + 1) + sv_len 2)), .int (nI (rd_val tx n ((pp + sv_len 0) + 1))), .int st, .int mo, .int jo, .int vo, .int (bo_I re)])), (sa, .inl (cI, 120, .inl tx))] H := hP
              have hD : va_D A [(rd, .inr (3, [.ref sa, .int (nI n), .int (nI (((rd_end tx n ((pp + sv_len 0) + 1)) + 1) + sv_len 2)), .int (nI (rd_val tx n ((pp + sv_len 0) + 1))), .int st, .int mo, .int jo, .int vo, .int (bo_I re)])), (sa, .inl (cI, 120, .inl tx))] := hD
              refine lv_if_eq (tgt := 78) hx hb d_Rd_takeHowOften_61 (by decide) (fun z9 => absurd z9 (by decide)) (fun _ => ?_)
              refine lv_aload_n hx hb d_Rd_takeHowOften_64 rfl (lv_at hl 0 rfl) ?_
              refine lv_aload_n hx hb d_Rd_takeHowOften_65 rfl (lv_at hl 0 rfl) ?_
              refine va_get (D := (dC, dI)) (ci := 3) (v := .int (nI (rd_val tx n ((pp + sv_len 0) + 1)))) (C := "PatternText$PatternReader") (T := F_Rd) (N := 9) hx hb hts iw_Rd hown hK hP 0 rfl rfl 3 (by decide) (hts _ kw_68) (fun _ h9 => h9) rfl d_Rd_takeHowOften_66 ?_
              refine lv_bipush (v := 7) hx hb d_Rd_takeHowOften_69 (by decide) ?_
              refine wy_imul hx hb (rd_val tx n ((pp + sv_len 0) + 1)) 7 d_Rd_takeHowOften_71 ?_
              refine va_put (D := (dC, dI)) (ci := 3) (v := .int (nI ((rd_val tx n ((pp + sv_len 0) + 1)) * 7))) (ty := .int) (C := "PatternText$PatternReader") (T := F_Rd) (N := 9) hx hb hts iw_Rd t_Rd t_Rd_ok n_Rd hown hK hP hD hS 0 rfl rfl 4 (by decide) (hts _ kw_69) (fun _ h9 => h9) rfl (by decide +kernel) rfl rfl (Nat.le_of_ble_eq_true rfl) d_Rd_takeHowOften_72 (fun H locs hP hD hS => ?_)
              have hP : va_P (dC, dI) ga_cl [(rd, .inr (3, [.ref sa, .int (nI n), .int (nI (((rd_end tx n ((pp + sv_len 0) + 1)) + 1) + sv_len 2)), .int (nI (rd_val tx n ((pp + sv_len 0) + 1))), .int (nI ((rd_val tx n ((pp + sv_len 0) + 1)) * 7)), .int mo, .int jo, .int vo, .int (bo_I re)])), (sa, .inl (cI, 120, .inl tx))] H := hP
              have hD : va_D A [(rd, .inr (3, [.ref sa, .int (nI n), .int (nI (((rd_end tx n ((pp + sv_len 0) + 1)) + 1) + sv_len 2)), .int (nI (rd_val tx n ((pp + sv_len 0) + 1))), .int (nI ((rd_val tx n ((pp + sv_len 0) + 1)) * 7)), .int mo, .int jo, .int vo, .int (bo_I re)])), (sa, .inl (cI, 120, .inl tx))] := hD
              refine lv_goto (tgt := 103) hx hb d_Rd_takeHowOften_75 (by decide) ?_
              refine lv_iconst (v := 1) hx hb d_Rd_takeHowOften_103 (by decide) ?_
              rw [hQ]
              have z9 : rd_how tx n pp nu st = (true, ((rd_end tx n ((pp + sv_len 0) + 1)) + 1) + sv_len 2, (nI (rd_val tx n ((pp + sv_len 0) + 1))), nI ((rd_val tx n ((pp + sv_len 0) + 1)) * 7)) := by simp only [rd_how, hb_3, hb_10, hb_20, hb_27, hb_38, hb_58, cond_true, cond_false]
              have q9 : (1 : Int32) = bo_I ((rd_how tx n pp nu st).1) := by rw [z9]; rfl
              have e9 : ([(rd, .inr (3, [.ref sa, .int (nI n), .int (nI ((rd_how tx n pp nu st).2.1)), .int ((rd_how tx n pp nu st).2.2.1), .int ((rd_how tx n pp nu st).2.2.2), .int mo, .int jo, .int vo, .int (bo_I re)])), (sa, .inl (cI, 120, .inl tx))] : va_W) = [(rd, .inr (3, [.ref sa, .int (nI n), .int (nI (((rd_end tx n ((pp + sv_len 0) + 1)) + 1) + sv_len 2)), .int (nI (rd_val tx n ((pp + sv_len 0) + 1))), .int (nI ((rd_val tx n ((pp + sv_len 0) + 1)) * 7)), .int mo, .int jo, .int vo, .int (bo_I re)])), (sa, .inl (cI, 120, .inl tx))] := by rw [z9]
              exact W.zret (v := 1) hx hb hr rfl (fun t ht hW => ⟨⟨_, (), rfl, q9, by rw [ht, e9]; exact hP, va_K.moved hW.alike hK, by rw [e9]; exact hD⟩, hS.F ht⟩) hS.2.2 d_Rd_takeHowOften_104
          · rw [hb_38] at hP hD
            have hP : va_P (dC, dI) ga_cl [(rd, .inr (3, [.ref sa, .int (nI n), .int (nI (((rd_end tx n ((pp + sv_len 0) + 1)) + 1) + sv_len 1)), .int (nI (rd_val tx n ((pp + sv_len 0) + 1))), .int st, .int mo, .int jo, .int vo, .int (bo_I re)])), (sa, .inl (cI, 120, .inl tx))] H := hP
            have hD : va_D A [(rd, .inr (3, [.ref sa, .int (nI n), .int (nI (((rd_end tx n ((pp + sv_len 0) + 1)) + 1) + sv_len 1)), .int (nI (rd_val tx n ((pp + sv_len 0) + 1))), .int st, .int mo, .int jo, .int vo, .int (bo_I re)])), (sa, .inl (cI, 120, .inl tx))] := hD
            refine lv_if_eq (tgt := 55) hx hb d_Rd_takeHowOften_41 (by decide) (fun z9 => absurd z9 (by decide)) (fun _ => ?_)
            refine lv_aload_n hx hb d_Rd_takeHowOften_44 rfl (lv_at hl 0 rfl) ?_
            refine lv_aload_n hx hb d_Rd_takeHowOften_45 rfl (lv_at hl 0 rfl) ?_
            refine va_get (D := (dC, dI)) (ci := 3) (v := .int (nI (rd_val tx n ((pp + sv_len 0) + 1)))) (C := "PatternText$PatternReader") (T := F_Rd) (N := 9) hx hb hts iw_Rd hown hK hP 0 rfl rfl 3 (by decide) (hts _ kw_68) (fun _ h9 => h9) rfl d_Rd_takeHowOften_46 ?_
            refine va_put (D := (dC, dI)) (ci := 3) (v := .int (nI (rd_val tx n ((pp + sv_len 0) + 1)))) (ty := .int) (C := "PatternText$PatternReader") (T := F_Rd) (N := 9) hx hb hts iw_Rd t_Rd t_Rd_ok n_Rd hown hK hP hD hS 0 rfl rfl 4 (by decide) (hts _ kw_69) (fun _ h9 => h9) rfl (by decide +kernel) rfl rfl (Nat.le_of_ble_eq_true rfl) d_Rd_takeHowOften_49 (fun H locs hP hD hS => ?_)
            have hP : va_P (dC, dI) ga_cl [(rd, .inr (3, [.ref sa, .int (nI n), .int (nI (((rd_end tx n ((pp + sv_len 0) + 1)) + 1) + sv_len 1)), .int (nI (rd_val tx n ((pp + sv_len 0) + 1))), .int (nI (rd_val tx n ((pp + sv_len 0) + 1))), .int mo, .int jo, .int vo, .int (bo_I re)])), (sa, .inl (cI, 120, .inl tx))] H := hP
            have hD : va_D A [(rd, .inr (3, [.ref sa, .int (nI n), .int (nI (((rd_end tx n ((pp + sv_len 0) + 1)) + 1) + sv_len 1)), .int (nI (rd_val tx n ((pp + sv_len 0) + 1))), .int (nI (rd_val tx n ((pp + sv_len 0) + 1))), .int mo, .int jo, .int vo, .int (bo_I re)])), (sa, .inl (cI, 120, .inl tx))] := hD
            refine lv_goto (tgt := 103) hx hb d_Rd_takeHowOften_52 (by decide) ?_
            refine lv_iconst (v := 1) hx hb d_Rd_takeHowOften_103 (by decide) ?_
            rw [hQ]
            have z9 : rd_how tx n pp nu st = (true, ((rd_end tx n ((pp + sv_len 0) + 1)) + 1) + sv_len 1, (nI (rd_val tx n ((pp + sv_len 0) + 1))), (nI (rd_val tx n ((pp + sv_len 0) + 1)))) := by simp only [rd_how, hb_3, hb_10, hb_20, hb_27, hb_38, cond_true, cond_false]
            have q9 : (1 : Int32) = bo_I ((rd_how tx n pp nu st).1) := by rw [z9]; rfl
            have e9 : ([(rd, .inr (3, [.ref sa, .int (nI n), .int (nI ((rd_how tx n pp nu st).2.1)), .int ((rd_how tx n pp nu st).2.2.1), .int ((rd_how tx n pp nu st).2.2.2), .int mo, .int jo, .int vo, .int (bo_I re)])), (sa, .inl (cI, 120, .inl tx))] : va_W) = [(rd, .inr (3, [.ref sa, .int (nI n), .int (nI (((rd_end tx n ((pp + sv_len 0) + 1)) + 1) + sv_len 1)), .int (nI (rd_val tx n ((pp + sv_len 0) + 1))), .int (nI (rd_val tx n ((pp + sv_len 0) + 1))), .int mo, .int jo, .int vo, .int (bo_I re)])), (sa, .inl (cI, 120, .inl tx))] := by rw [z9]
            exact W.zret (v := 1) hx hb hr rfl (fun t ht hW => ⟨⟨_, (), rfl, q9, by rw [ht, e9]; exact hP, va_K.moved hW.alike hK, by rw [e9]; exact hD⟩, hS.F ht⟩) hS.2.2 d_Rd_takeHowOften_104

set_option maxHeartbeats 4000000 in
set_option maxRecDepth 100000 in
/-- takeClauses -/
theorem c_Rd_takeClauses (l : Launch) (dC : Nat → ClassId) (dI : Nat → Nat → Nat) (sz : Nat) (ad : Nat → Nat) (av : Nat → Nat) (rd : Nat) (sa : Nat) (cI : ClassId) (tx : Nat → Int32) (n : Nat) (pp : Nat) (nu : Int32) (st : Int32) (mo : Int32) (jo : Int32) (vo : Int32) (re : Bool) (hn : n ≤ 120) (hp : pp ≤ n) : Met l y_Rd_takeClauses w_Rd_takeClauses ({ frames := 6, cells := 0, slots := 0, locals := 130 }) (va_Pc [.ref rd] (wy_ME (dC, dI) ga_cl [(rd, .inr (3, [.ref sa, .int (nI n), .int (nI pp), .int nu, .int st, .int mo, .int jo, .int vo, .int (bo_I re)])), (sa, .inl (cI, 120, .inl tx))] [(cI, .int)] sz ad av)) (va_Qi (fun (r : Int32) (_ : Unit) => r = bo_I ((rd_cl tx n pp nu mo jo vo re).1)) (fun _ => wy_N (dC, dI) ga_cl [(cI, .int)] (va_A [(rd, .inr (3, [.ref sa, .int (nI n), .int (nI pp), .int nu, .int st, .int mo, .int jo, .int vo, .int (bo_I re)])), (sa, .inl (cI, 120, .inl tx))] sz) [(rd, .inr (3, [.ref sa, .int (nI n), .int (nI ((rd_cl tx n pp nu mo jo vo re).2.1)), .int ((rd_cl tx n pp nu mo jo vo re).2.2.1), .int st, .int ((rd_cl tx n pp nu mo jo vo re).2.2.2.1), .int ((rd_cl tx n pp nu mo jo vo re).2.2.2.2.1), .int ((rd_cl tx n pp nu mo jo vo re).2.2.2.2.2.1), .int (bo_I ((rd_cl tx n pp nu mo jo vo re).2.2.2.2.2.2))])), (sa, .inl (cI, 120, .inl tx))]) (va_A [(rd, .inr (3, [.ref sa, .int (nI n), .int (nI pp), .int nu, .int st, .int mo, .int jo, .int vo, .int (bo_I re)])), (sa, .inl (cI, 120, .inl tx))] sz)) 0 0 (va_A [(rd, .inr (3, [.ref sa, .int (nI n), .int (nI pp), .int nu, .int st, .int mo, .int jo, .int vo, .int (bo_I re)])), (sa, .inl (cI, 120, .inl tx))] sz) := by
  refine Met.ofW (cc := b_Rd_takeClauses) (maxL := 1) (ret := (some .boolean)) (by decide) rfl ?_
  intro p e s m args below meth c s₁ B hml hv
  obtain ⟨rfl, hsz, hP, hK, hN, hE, hD0⟩ := hv
  have hx := B.exec
  have hb := B.bytes
  have hr := B.returns
  have hts : ∀ w ∈ ga_tbl, w.before _ s = true := fun w h => atoms_spec (ws := w_Rd_takeClauses) B.pre w (List.mem_cons_of_mem _ h)
  have hown : s.vm.findClass "PatternText$PatternReader" = some m.cls := findClass_of_methodNamed B.named
  have hlocks := B.notSynchronized
  subst hsz
  have hD := hD0.self (sz := s.heap.size)
  generalize hAe : va_A [(rd, .inr (3, [.ref sa, .int (nI n), .int (nI pp), .int nu, .int st, .int mo, .int jo, .int vo, .int (bo_I re)])), (sa, .inl (cI, 120, .inl tx))] s.heap.size = A at hD hE ⊢
  have hA : ∀ q : Nat, s.heap.size ≤ q → A q := fun q h => by rw [← hAe]; exact Or.inr h
  have hS : va_S A s.heap s.heap [] := va_S.rf
  have hl := lv_entry ([.ref rd]) (n := 1) (Nat.le_of_ble_eq_true rfl)
  rw [lg_entry_eq]
  generalize (lg_sl ([.ref rd]) ++ List.replicate (1 - (lg_sl ([.ref rd])).length) Slot.unset).toArray = ls at hl ⊢
  have hl : lv_has ls 1 [(0, .ref rd)] := hl
  obtain ⟨Q0, hQ⟩ : ∃ Q0 : State → Prop, Q0 = MQ below (va_Qi (fun (r : Int32) (_ : Unit) => r = bo_I ((rd_cl tx n pp nu mo jo vo re).1)) (fun _ => wy_N (dC, dI) ga_cl [(cI, .int)] A [(rd, .inr (3, [.ref sa, .int (nI n), .int (nI ((rd_cl tx n pp nu mo jo vo re).2.1)), .int ((rd_cl tx n pp nu mo jo vo re).2.2.1), .int st, .int ((rd_cl tx n pp nu mo jo vo re).2.2.2.1), .int ((rd_cl tx n pp nu mo jo vo re).2.2.2.2.1), .int ((rd_cl tx n pp nu mo jo vo re).2.2.2.2.2.1), .int (bo_I ((rd_cl tx n pp nu mo jo vo re).2.2.2.2.2.2))])), (sa, .inl (cI, 120, .inl tx))]) A) ([.ref rd] : List Value).toArray s 0 0 A := ⟨_, rfl⟩
  show W p l e ({ frames := 6, cells := 0, slots := 0, locals := 130 }) s m ([.ref rd] : List Value).toArray below meth c s.heap [] 0 0 (MQ below (va_Qi (fun (r : Int32) (_ : Unit) => r = bo_I ((rd_cl tx n pp nu mo jo vo re).1)) (fun _ => wy_N (dC, dI) ga_cl [(cI, .int)] A [(rd, .inr (3, [.ref sa, .int (nI n), .int (nI ((rd_cl tx n pp nu mo jo vo re).2.1)), .int ((rd_cl tx n pp nu mo jo vo re).2.2.1), .int st, .int ((rd_cl tx n pp nu mo jo vo re).2.2.2.1), .int ((rd_cl tx n pp nu mo jo vo re).2.2.2.2.1), .int ((rd_cl tx n pp nu mo jo vo re).2.2.2.2.2.1), .int (bo_I ((rd_cl tx n pp nu mo jo vo re).2.2.2.2.2.2))])), (sa, .inl (cI, 120, .inl tx))]) A) ([.ref rd] : List Value).toArray s 0 0 A) (F0 m 0 ls [])
  rw [← hQ]
  refine lv_aload_n hx hb d_Rd_takeClauses_0 rfl (lv_at hl 0 rfl) ?_
  refine va_ldcS hx hb hown (hE.2.2 4 (by decide)).2 d_Rd_takeClauses_1 ?_
  have hF_3 := va_free (wc := [(rd, .inr (3, [.ref sa, .int (nI n), .int (nI pp), .int nu, .int st, .int mo, .int jo, .int vo, .int (bo_I re)])), (sa, .inl (cI, 120, .inl tx))]) hD hS hA [0, 1] rfl
  refine wy_calli (wr := []) (w1 := [(rd, .inr (3, [.ref sa, .int (nI n), .int (nI (cond (rd_next tx n pp (sv_w 4) (sv_len 4)) (pp + 1 + sv_len 4) pp)), .int nu, .int st, .int mo, .int jo, .int vo, .int (bo_I re)])), (sa, .inl (cI, 120, .inl tx))]) (va_runV (As := [.ref (ad 4)]) (rest := []) ⟨hx, hb, hml, hown, hts⟩ (c_Rd_takeNextWord l dC dI s.heap.size ad av rd sa cI tx n pp nu st mo jo vo re 4 (by omega) (by omega) (by decide)) (cwV 1 hts (ga_V kw_280 kw_282 kw_7 kw_35 (ga_in kw_283)) rfl rfl rfl (by decide +kernel) ⟨Nat.le_of_ble_eq_true rfl, Nat.le_of_ble_eq_true rfl⟩) (wy_mreVE 0 (hP.sub (ws' := [(rd, .inr (3, [.ref sa, .int (nI n), .int (nI pp), .int nu, .int st, .int mo, .int jo, .int vo, .int (bo_I re)])), (sa, .inl (cI, 120, .inl tx))]) [0, 1] rfl) (hK.sub (tys' := [(cI, .int)]) [0] rfl) hN (hD.sub (ws' := [(rd, .inr (3, [.ref sa, .int (nI n), .int (nI pp), .int nu, .int st, .int mo, .int jo, .int vo, .int (bo_I re)])), (sa, .inl (cI, 120, .inl tx))]) [0, 1] (by decide) rfl) hE hS hF_3 (ci := 3) rfl rfl rfl) rfl rfl hl.1 rfl (lv_room (Nat.le_of_ble_eq_true rfl)) d_Rd_takeClauses_3 ⟨Nat.le_of_ble_eq_true rfl, Nat.le_of_ble_eq_true rfl⟩) hP hD hS hA [0, 1] [] rfl rfl (by decide) (by decide) (fun H locs hP hD hS => ?_)
  have hP := hP.sub (ws' := [(rd, .inr (3, [.ref sa, .int (nI n), .int (nI (cond (rd_next tx n pp (sv_w 4) (sv_len 4)) (pp + 1 + sv_len 4) pp)), .int nu, .int st, .int mo, .int jo, .int vo, .int (bo_I re)])), (sa, .inl (cI, 120, .inl tx))]) [0, 1] rfl
  have hD := hD.sub (ws' := [(rd, .inr (3, [.ref sa, .int (nI n), .int (nI (cond (rd_next tx n pp (sv_w 4) (sv_len 4)) (pp + 1 + sv_len 4) pp)), .int nu, .int st, .int mo, .int jo, .int vo, .int (bo_I re)])), (sa, .inl (cI, 120, .inl tx))]) [0, 1] (by decide) rfl
  rcases hb_3 : rd_next tx n pp (sv_w 4) (sv_len 4) with _ | _
  · rw [hb_3] at hP hD
    have hP : va_P (dC, dI) ga_cl [(rd, .inr (3, [.ref sa, .int (nI n), .int (nI pp), .int nu, .int st, .int mo, .int jo, .int vo, .int (bo_I re)])), (sa, .inl (cI, 120, .inl tx))] H := hP
    have hD : va_D A [(rd, .inr (3, [.ref sa, .int (nI n), .int (nI pp), .int nu, .int st, .int mo, .int jo, .int vo, .int (bo_I re)])), (sa, .inl (cI, 120, .inl tx))] := hD
    refine lv_if_eq (tgt := 25) hx hb d_Rd_takeClauses_6 (by decide) (fun _ => ?_) (fun z9 => absurd z9 (by decide))
    refine lv_aload_n hx hb d_Rd_takeClauses_25 rfl (lv_at hl 0 rfl) ?_
    refine va_ldcS hx hb hown (hE.2.2 5 (by decide)).2 d_Rd_takeClauses_26 ?_
    have hF_28 := va_free (wc := [(rd, .inr (3, [.ref sa, .int (nI n), .int (nI pp), .int nu, .int st, .int mo, .int jo, .int vo, .int (bo_I re)])), (sa, .inl (cI, 120, .inl tx))]) hD hS hA [0, 1] rfl
    refine wy_calli (wr := []) (w1 := [(rd, .inr (3, [.ref sa, .int (nI n), .int (nI (cond (rd_next tx n pp (sv_w 5) (sv_len 5)) (pp + 1 + sv_len 5) pp)), .int nu, .int st, .int mo, .int jo, .int vo, .int (bo_I re)])), (sa, .inl (cI, 120, .inl tx))]) (va_runV (As := [.ref (ad 5)]) (rest := []) ⟨hx, hb, hml, hown, hts⟩ (c_Rd_takeNextWord l dC dI H.size ad av rd sa cI tx n pp nu st mo jo vo re 5 (by omega) (by omega) (by decide)) (cwV 1 hts (ga_V kw_280 kw_282 kw_7 kw_35 (ga_in kw_283)) rfl rfl rfl (by decide +kernel) ⟨Nat.le_of_ble_eq_true rfl, Nat.le_of_ble_eq_true rfl⟩) (wy_mreVE 0 (hP.sub (ws' := [(rd, .inr (3, [.ref sa, .int (nI n), .int (nI pp), .int nu, .int st, .int mo, .int jo, .int vo, .int (bo_I re)])), (sa, .inl (cI, 120, .inl tx))]) [0, 1] rfl) (hK.sub (tys' := [(cI, .int)]) [0] rfl) hN (hD.sub (ws' := [(rd, .inr (3, [.ref sa, .int (nI n), .int (nI pp), .int nu, .int st, .int mo, .int jo, .int vo, .int (bo_I re)])), (sa, .inl (cI, 120, .inl tx))]) [0, 1] (by decide) rfl) hE hS hF_28 (ci := 3) rfl rfl rfl) rfl rfl hl.1 rfl (lv_room (Nat.le_of_ble_eq_true rfl)) d_Rd_takeClauses_28 ⟨Nat.le_of_ble_eq_true rfl, Nat.le_of_ble_eq_true rfl⟩) hP hD hS hA [0, 1] [] rfl rfl (by decide) (by decide) (fun H locs hP hD hS => ?_)
    have hP := hP.sub (ws' := [(rd, .inr (3, [.ref sa, .int (nI n), .int (nI (cond (rd_next tx n pp (sv_w 5) (sv_len 5)) (pp + 1 + sv_len 5) pp)), .int nu, .int st, .int mo, .int jo, .int vo, .int (bo_I re)])), (sa, .inl (cI, 120, .inl tx))]) [0, 1] rfl
    have hD := hD.sub (ws' := [(rd, .inr (3, [.ref sa, .int (nI n), .int (nI (cond (rd_next tx n pp (sv_w 5) (sv_len 5)) (pp + 1 + sv_len 5) pp)), .int nu, .int st, .int mo, .int jo, .int vo, .int (bo_I re)])), (sa, .inl (cI, 120, .inl tx))]) [0, 1] (by decide) rfl
    rcases hb_28 : rd_next tx n pp (sv_w 5) (sv_len 5) with _ | _
    · rw [hb_28] at hP hD
      have hP : va_P (dC, dI) ga_cl [(rd, .inr (3, [.ref sa, .int (nI n), .int (nI pp), .int nu, .int st, .int mo, .int jo, .int vo, .int (bo_I re)])), (sa, .inl (cI, 120, .inl tx))] H := hP
      have hD : va_D A [(rd, .inr (3, [.ref sa, .int (nI n), .int (nI pp), .int nu, .int st, .int mo, .int jo, .int vo, .int (bo_I re)])), (sa, .inl (cI, 120, .inl tx))] := hD
      refine lv_if_eq (tgt := 61) hx hb d_Rd_takeClauses_31 (by decide) (fun _ => ?_) (fun z9 => absurd z9 (by decide))
      refine lv_aload_n hx hb d_Rd_takeClauses_61 rfl (lv_at hl 0 rfl) ?_
      refine va_ldcS hx hb hown (hE.2.2 6 (by decide)).2 d_Rd_takeClauses_62 ?_
      have hF_64 := va_free (wc := [(rd, .inr (3, [.ref sa, .int (nI n), .int (nI pp), .int nu, .int st, .int mo, .int jo, .int vo, .int (bo_I re)])), (sa, .inl (cI, 120, .inl tx))]) hD hS hA [0, 1] rfl
      refine wy_calli (wr := []) (w1 := [(rd, .inr (3, [.ref sa, .int (nI n), .int (nI (cond (rd_next tx n pp (sv_w 6) (sv_len 6)) (pp + 1 + sv_len 6) pp)), .int nu, .int st, .int mo, .int jo, .int vo, .int (bo_I re)])), (sa, .inl (cI, 120, .inl tx))]) (va_runV (As := [.ref (ad 6)]) (rest := []) ⟨hx, hb, hml, hown, hts⟩ (c_Rd_takeNextWord l dC dI H.size ad av rd sa cI tx n pp nu st mo jo vo re 6 (by omega) (by omega) (by decide)) (cwV 1 hts (ga_V kw_280 kw_282 kw_7 kw_35 (ga_in kw_283)) rfl rfl rfl (by decide +kernel) ⟨Nat.le_of_ble_eq_true rfl, Nat.le_of_ble_eq_true rfl⟩) (wy_mreVE 0 (hP.sub (ws' := [(rd, .inr (3, [.ref sa, .int (nI n), .int (nI pp), .int nu, .int st, .int mo, .int jo, .int vo, .int (bo_I re)])), (sa, .inl (cI, 120, .inl tx))]) [0, 1] rfl) (hK.sub (tys' := [(cI, .int)]) [0] rfl) hN (hD.sub (ws' := [(rd, .inr (3, [.ref sa, .int (nI n), .int (nI pp), .int nu, .int st, .int mo, .int jo, .int vo, .int (bo_I re)])), (sa, .inl (cI, 120, .inl tx))]) [0, 1] (by decide) rfl) hE hS hF_64 (ci := 3) rfl rfl rfl) rfl rfl hl.1 rfl (lv_room (Nat.le_of_ble_eq_true rfl)) d_Rd_takeClauses_64 ⟨Nat.le_of_ble_eq_true rfl, Nat.le_of_ble_eq_true rfl⟩) hP hD hS hA [0, 1] [] rfl rfl (by decide) (by decide) (fun H locs hP hD hS => ?_)
      have hP := hP.sub (ws' := [(rd, .inr (3, [.ref sa, .int (nI n), .int (nI (cond (rd_next tx n pp (sv_w 6) (sv_len 6)) (pp + 1 + sv_len 6) pp)), .int nu, .int st, .int mo, .int jo, .int vo, .int (bo_I re)])), (sa, .inl (cI, 120, .inl tx))]) [0, 1] rfl
      have hD := hD.sub (ws' := [(rd, .inr (3, [.ref sa, .int (nI n), .int (nI (cond (rd_next tx n pp (sv_w 6) (sv_len 6)) (pp + 1 + sv_len 6) pp)), .int nu, .int st, .int mo, .int jo, .int vo, .int (bo_I re)])), (sa, .inl (cI, 120, .inl tx))]) [0, 1] (by decide) rfl
      rcases hb_64 : rd_next tx n pp (sv_w 6) (sv_len 6) with _ | _
      · rw [hb_64] at hP hD
        have hP : va_P (dC, dI) ga_cl [(rd, .inr (3, [.ref sa, .int (nI n), .int (nI pp), .int nu, .int st, .int mo, .int jo, .int vo, .int (bo_I re)])), (sa, .inl (cI, 120, .inl tx))] H := hP
        have hD : va_D A [(rd, .inr (3, [.ref sa, .int (nI n), .int (nI pp), .int nu, .int st, .int mo, .int jo, .int vo, .int (bo_I re)])), (sa, .inl (cI, 120, .inl tx))] := hD
        refine lv_if_eq (tgt := 107) hx hb d_Rd_takeClauses_67 (by decide) (fun _ => ?_) (fun z9 => absurd z9 (by decide))
        refine lv_iconst (v := 1) hx hb d_Rd_takeClauses_107 (by decide) ?_
        rw [hQ]
        have z9 : rd_cl tx n pp nu mo jo vo re = (true, pp, nu, mo, jo, vo, re) := by simp only [rd_cl, rd_c1, rd_c2, rd_c3, hb_3, hb_28, hb_64, cond_true, cond_false]
        have q9 : (1 : Int32) = bo_I ((rd_cl tx n pp nu mo jo vo re).1) := by rw [z9]; rfl
        have e9 : ([(rd, .inr (3, [.ref sa, .int (nI n), .int (nI ((rd_cl tx n pp nu mo jo vo re).2.1)), .int ((rd_cl tx n pp nu mo jo vo re).2.2.1), .int st, .int ((rd_cl tx n pp nu mo jo vo re).2.2.2.1), .int ((rd_cl tx n pp nu mo jo vo re).2.2.2.2.1), .int ((rd_cl tx n pp nu mo jo vo re).2.2.2.2.2.1), .int (bo_I ((rd_cl tx n pp nu mo jo vo re).2.2.2.2.2.2))])), (sa, .inl (cI, 120, .inl tx))] : va_W) = [(rd, .inr (3, [.ref sa, .int (nI n), .int (nI pp), .int nu, .int st, .int mo, .int jo, .int vo, .int (bo_I re)])), (sa, .inl (cI, 120, .inl tx))] := by rw [z9] <;> rfl
        exact W.zret (v := 1) hx hb hr rfl (fun t ht hW => ⟨⟨_, (), rfl, q9, by rw [ht, e9]; exact hP, va_K.moved hW.alike hK, by rw [e9]; exact hD⟩, hS.F ht⟩) hS.2.2 d_Rd_takeClauses_108
      · rw [hb_64] at hP hD
        have hP : va_P (dC, dI) ga_cl [(rd, .inr (3, [.ref sa, .int (nI n), .int (nI (pp + 1 + sv_len 6)), .int nu, .int st, .int mo, .int jo, .int vo, .int (bo_I re)])), (sa, .inl (cI, 120, .inl tx))] H := hP
        have hD : va_D A [(rd, .inr (3, [.ref sa, .int (nI n), .int (nI (pp + 1 + sv_len 6)), .int nu, .int st, .int mo, .int jo, .int vo, .int (bo_I re)])), (sa, .inl (cI, 120, .inl tx))] := hD
        have l_64 := rd_next_le hb_64
        refine lv_if_eq (tgt := 107) hx hb d_Rd_takeClauses_67 (by decide) (fun z9 => absurd z9 (by decide)) (fun _ => ?_)
        refine lv_aload_n hx hb d_Rd_takeClauses_70 rfl (lv_at hl 0 rfl) ?_
        refine wy_calli (wr := []) (w1 := [(rd, .inr (3, [.ref sa, .int (nI n), .int (nI (cond (rd_sp tx n (pp + 1 + sv_len 6)) ((pp + 1 + sv_len 6) + 1) (pp + 1 + sv_len 6))), .int nu, .int st, .int mo, .int jo, .int vo, .int (bo_I re)])), (sa, .inl (cI, 120, .inl tx))]) (va_runV (As := []) (rest := []) ⟨hx, hb, hml, hown, hts⟩ (c_Rd_takeSpace l dC dI H.size rd sa cI tx n (pp + 1 + sv_len 6) nu st mo jo vo re (by omega) (by omega)) (cwV 0 hts (ga_V kw_254 kw_256 kw_3 kw_35 (ga_in kw_257)) rfl rfl rfl (by decide +kernel) ⟨Nat.le_of_ble_eq_true rfl, Nat.le_of_ble_eq_true rfl⟩) (wy_mreV 0 (hP.sub (ws' := [(rd, .inr (3, [.ref sa, .int (nI n), .int (nI (pp + 1 + sv_len 6)), .int nu, .int st, .int mo, .int jo, .int vo, .int (bo_I re)])), (sa, .inl (cI, 120, .inl tx))]) [0, 1] rfl) (hK.sub (tys' := [(cI, .int)]) [0] rfl) hN (hD.sub (ws' := [(rd, .inr (3, [.ref sa, .int (nI n), .int (nI (pp + 1 + sv_len 6)), .int nu, .int st, .int mo, .int jo, .int vo, .int (bo_I re)])), (sa, .inl (cI, 120, .inl tx))]) [0, 1] (by decide) rfl) (ci := 3) rfl rfl rfl) rfl rfl hl.1 rfl (lv_room (Nat.le_of_ble_eq_true rfl)) d_Rd_takeClauses_71 ⟨Nat.le_of_ble_eq_true rfl, Nat.le_of_ble_eq_true rfl⟩) hP hD hS hA [0, 1] [] rfl rfl (by decide) (by decide) (fun H locs hP hD hS => ?_)
        have hP := hP.sub (ws' := [(rd, .inr (3, [.ref sa, .int (nI n), .int (nI (cond (rd_sp tx n (pp + 1 + sv_len 6)) ((pp + 1 + sv_len 6) + 1) (pp + 1 + sv_len 6))), .int nu, .int st, .int mo, .int jo, .int vo, .int (bo_I re)])), (sa, .inl (cI, 120, .inl tx))]) [0, 1] rfl
        have hD := hD.sub (ws' := [(rd, .inr (3, [.ref sa, .int (nI n), .int (nI (cond (rd_sp tx n (pp + 1 + sv_len 6)) ((pp + 1 + sv_len 6) + 1) (pp + 1 + sv_len 6))), .int nu, .int st, .int mo, .int jo, .int vo, .int (bo_I re)])), (sa, .inl (cI, 120, .inl tx))]) [0, 1] (by decide) rfl
        rcases hb_71 : rd_sp tx n (pp + 1 + sv_len 6) with _ | _
        · rw [hb_71] at hP hD
          have hP : va_P (dC, dI) ga_cl [(rd, .inr (3, [.ref sa, .int (nI n), .int (nI (pp + 1 + sv_len 6)), .int nu, .int st, .int mo, .int jo, .int vo, .int (bo_I re)])), (sa, .inl (cI, 120, .inl tx))] H := hP
          have hD : va_D A [(rd, .inr (3, [.ref sa, .int (nI n), .int (nI (pp + 1 + sv_len 6)), .int nu, .int st, .int mo, .int jo, .int vo, .int (bo_I re)])), (sa, .inl (cI, 120, .inl tx))] := hD
          refine lv_if_eq (tgt := 87) hx hb d_Rd_takeClauses_74 (by decide) (fun _ => ?_) (fun z9 => absurd z9 (by decide))
          refine lv_iconst (v := 0) hx hb d_Rd_takeClauses_87 (by decide) ?_
          rw [hQ]
          have z9 : rd_cl tx n pp nu mo jo vo re = (false, pp + 1 + sv_len 6, nu, mo, jo, vo, re) := by simp only [rd_cl, rd_c1, rd_c2, rd_c3, hb_3, hb_28, hb_64, hb_71, cond_true, cond_false]
          have q9 : (0 : Int32) = bo_I ((rd_cl tx n pp nu mo jo vo re).1) := by rw [z9]; rfl
          have e9 : ([(rd, .inr (3, [.ref sa, .int (nI n), .int (nI ((rd_cl tx n pp nu mo jo vo re).2.1)), .int ((rd_cl tx n pp nu mo jo vo re).2.2.1), .int st, .int ((rd_cl tx n pp nu mo jo vo re).2.2.2.1), .int ((rd_cl tx n pp nu mo jo vo re).2.2.2.2.1), .int ((rd_cl tx n pp nu mo jo vo re).2.2.2.2.2.1), .int (bo_I ((rd_cl tx n pp nu mo jo vo re).2.2.2.2.2.2))])), (sa, .inl (cI, 120, .inl tx))] : va_W) = [(rd, .inr (3, [.ref sa, .int (nI n), .int (nI (pp + 1 + sv_len 6)), .int nu, .int st, .int mo, .int jo, .int vo, .int (bo_I re)])), (sa, .inl (cI, 120, .inl tx))] := by rw [z9] <;> rfl
          exact W.zret (v := 0) hx hb hr rfl (fun t ht hW => ⟨⟨_, (), rfl, q9, by rw [ht, e9]; exact hP, va_K.moved hW.alike hK, by rw [e9]; exact hD⟩, hS.F ht⟩) hS.2.2 d_Rd_takeClauses_88
        · rw [hb_71] at hP hD
          have hP : va_P (dC, dI) ga_cl [(rd, .inr (3, [.ref sa, .int (nI n), .int (nI ((pp + 1 + sv_len 6) + 1)), .int nu, .int st, .int mo, .int jo, .int vo, .int (bo_I re)])), (sa, .inl (cI, 120, .inl tx))] H := hP
          have hD : va_D A [(rd, .inr (3, [.ref sa, .int (nI n), .int (nI ((pp + 1 + sv_len 6) + 1)), .int nu, .int st, .int mo, .int jo, .int vo, .int (bo_I re)])), (sa, .inl (cI, 120, .inl tx))] := hD
          have l_71 := rd_sp_lt hb_71
          refine lv_if_eq (tgt := 87) hx hb d_Rd_takeClauses_74 (by decide) (fun z9 => absurd z9 (by decide)) (fun _ => ?_)
          refine lv_aload_n hx hb d_Rd_takeClauses_77 rfl (lv_at hl 0 rfl) ?_
          refine lv_iconst (v := 1) hx hb d_Rd_takeClauses_78 (by decide) ?_
          refine lv_bipush (v := 99) hx hb d_Rd_takeClauses_79 (by decide) ?_
          refine wy_calli (wr := []) (w1 := [(rd, .inr (3, [.ref sa, .int (nI n), .int (nI (cond (rd_num tx n 1 99 ((pp + 1 + sv_len 6) + 1)) (rd_end tx n ((pp + 1 + sv_len 6) + 1)) ((pp + 1 + sv_len 6) + 1))), .int (cond (rd_num tx n 1 99 ((pp + 1 + sv_len 6) + 1)) (nI (rd_val tx n ((pp + 1 + sv_len 6) + 1))) nu), .int st, .int mo, .int jo, .int vo, .int (bo_I re)])), (sa, .inl (cI, 120, .inl tx))]) (va_runV (As := [.int 1, .int 99]) (rest := []) ⟨hx, hb, hml, hown, hts⟩ (c_Rd_takeNumber l dC dI H.size rd sa cI tx n ((pp + 1 + sv_len 6) + 1) nu st mo jo vo re 1 99 (by omega) (by omega) (by omega) (by omega)) (cwV 2 hts (ga_V kw_262 kw_264 kw_5 kw_35 (ga_in kw_265)) rfl rfl rfl (by decide +kernel) ⟨Nat.le_of_ble_eq_true rfl, Nat.le_of_ble_eq_true rfl⟩) (wy_mreV 0 (hP.sub (ws' := [(rd, .inr (3, [.ref sa, .int (nI n), .int (nI ((pp + 1 + sv_len 6) + 1)), .int nu, .int st, .int mo, .int jo, .int vo, .int (bo_I re)])), (sa, .inl (cI, 120, .inl tx))]) [0, 1] rfl) (hK.sub (tys' := [(cI, .int)]) [0] rfl) hN (hD.sub (ws' := [(rd, .inr (3, [.ref sa, .int (nI n), .int (nI ((pp + 1 + sv_len 6) + 1)), .int nu, .int st, .int mo, .int jo, .int vo, .int (bo_I re)])), (sa, .inl (cI, 120, .inl tx))]) [0, 1] (by decide) rfl) (ci := 3) rfl rfl rfl) rfl rfl hl.1 rfl (lv_room (Nat.le_of_ble_eq_true rfl)) d_Rd_takeClauses_81 ⟨Nat.le_of_ble_eq_true rfl, Nat.le_of_ble_eq_true rfl⟩) hP hD hS hA [0, 1] [] rfl rfl (by decide) (by decide) (fun H locs hP hD hS => ?_)
          have hP := hP.sub (ws' := [(rd, .inr (3, [.ref sa, .int (nI n), .int (nI (cond (rd_num tx n 1 99 ((pp + 1 + sv_len 6) + 1)) (rd_end tx n ((pp + 1 + sv_len 6) + 1)) ((pp + 1 + sv_len 6) + 1))), .int (cond (rd_num tx n 1 99 ((pp + 1 + sv_len 6) + 1)) (nI (rd_val tx n ((pp + 1 + sv_len 6) + 1))) nu), .int st, .int mo, .int jo, .int vo, .int (bo_I re)])), (sa, .inl (cI, 120, .inl tx))]) [0, 1] rfl
          have hD := hD.sub (ws' := [(rd, .inr (3, [.ref sa, .int (nI n), .int (nI (cond (rd_num tx n 1 99 ((pp + 1 + sv_len 6) + 1)) (rd_end tx n ((pp + 1 + sv_len 6) + 1)) ((pp + 1 + sv_len 6) + 1))), .int (cond (rd_num tx n 1 99 ((pp + 1 + sv_len 6) + 1)) (nI (rd_val tx n ((pp + 1 + sv_len 6) + 1))) nu), .int st, .int mo, .int jo, .int vo, .int (bo_I re)])), (sa, .inl (cI, 120, .inl tx))]) [0, 1] (by decide) rfl
          rcases hb_81 : rd_num tx n 1 99 ((pp + 1 + sv_len 6) + 1) with _ | _
          · rw [hb_81] at hP hD
            have hP : va_P (dC, dI) ga_cl [(rd, .inr (3, [.ref sa, .int (nI n), .int (nI ((pp + 1 + sv_len 6) + 1)), .int nu, .int st, .int mo, .int jo, .int vo, .int (bo_I re)])), (sa, .inl (cI, 120, .inl tx))] H := hP
            have hD : va_D A [(rd, .inr (3, [.ref sa, .int (nI n), .int (nI ((pp + 1 + sv_len 6) + 1)), .int nu, .int st, .int mo, .int jo, .int vo, .int (bo_I re)])), (sa, .inl (cI, 120, .inl tx))] := hD
            refine lv_if_ne (tgt := 89) hx hb d_Rd_takeClauses_84 (by decide) (fun z9 => absurd z9 (by decide)) (fun _ => ?_)
            refine lv_iconst (v := 0) hx hb d_Rd_takeClauses_87 (by decide) ?_
            rw [hQ]
            have z9 : rd_cl tx n pp nu mo jo vo re = (false, (pp + 1 + sv_len 6) + 1, nu, mo, jo, vo, re) := by simp only [rd_cl, rd_c1, rd_c2, rd_c3, hb_3, hb_28, hb_64, hb_71, hb_81, cond_true, cond_false]
            have q9 : (0 : Int32) = bo_I ((rd_cl tx n pp nu mo jo vo re).1) := by rw [z9]; rfl
            have e9 : ([(rd, .inr (3, [.ref sa, .int (nI n), .int (nI ((rd_cl tx n pp nu mo jo vo re).2.1)), .int ((rd_cl tx n pp nu mo jo vo re).2.2.1), .int st, .int ((rd_cl tx n pp nu mo jo vo re).2.2.2.1), .int ((rd_cl tx n pp nu mo jo vo re).2.2.2.2.1), .int ((rd_cl tx n pp nu mo jo vo re).2.2.2.2.2.1), .int (bo_I ((rd_cl tx n pp nu mo jo vo re).2.2.2.2.2.2))])), (sa, .inl (cI, 120, .inl tx))] : va_W) = [(rd, .inr (3, [.ref sa, .int (nI n), .int (nI ((pp + 1 + sv_len 6) + 1)), .int nu, .int st, .int mo, .int jo, .int vo, .int (bo_I re)])), (sa, .inl (cI, 120, .inl tx))] := by rw [z9] <;> rfl
            exact W.zret (v := 0) hx hb hr rfl (fun t ht hW => ⟨⟨_, (), rfl, q9, by rw [ht, e9]; exact hP, va_K.moved hW.alike hK, by rw [e9]; exact hD⟩, hS.F ht⟩) hS.2.2 d_Rd_takeClauses_88
          · rw [hb_81] at hP hD
            have hP : va_P (dC, dI) ga_cl [(rd, .inr (3, [.ref sa, .int (nI n), .int (nI (rd_end tx n ((pp + 1 + sv_len 6) + 1))), .int (nI (rd_val tx n ((pp + 1 + sv_len 6) + 1))), .int st, .int mo, .int jo, .int vo, .int (bo_I re)])), (sa, .inl (cI, 120, .inl tx))] H := hP
            have hD : va_D A [(rd, .inr (3, [.ref sa, .int (nI n), .int (nI (rd_end tx n ((pp + 1 + sv_len 6) + 1))), .int (nI (rd_val tx n ((pp + 1 + sv_len 6) + 1))), .int st, .int mo, .int jo, .int vo, .int (bo_I re)])), (sa, .inl (cI, 120, .inl tx))] := hD
            have l_81 := rd_end_le (tx := tx) (n := n) (p := _ + 1) l_71
            refine lv_if_ne (tgt := 89) hx hb d_Rd_takeClauses_84 (by decide) (fun _ => ?_) (fun z9 => absurd z9 (by decide))
            refine lv_aload_n hx hb d_Rd_takeClauses_89 rfl (lv_at hl 0 rfl) ?_
            refine lv_aload_n hx hb d_Rd_takeClauses_90 rfl (lv_at hl 0 rfl) ?_
            refine va_get (D := (dC, dI)) (ci := 3) (v := .int (nI (rd_val tx n ((pp + 1 + sv_len 6) + 1)))) (C := "PatternText$PatternReader") (T := F_Rd) (N := 9) hx hb hts iw_Rd hown hK hP 0 rfl rfl 3 (by decide) (hts _ kw_68) (fun _ h9 => h9) rfl d_Rd_takeClauses_91 ?_
            refine va_put (D := (dC, dI)) (ci := 3) (v := .int (nI (rd_val tx n ((pp + 1 + sv_len 6) + 1)))) (ty := .int) (C := "PatternText$PatternReader") (T := F_Rd) (N := 9) hx hb hts iw_Rd t_Rd t_Rd_ok n_Rd hown hK hP hD hS 0 rfl rfl 7 (by decide) (hts _ kw_72) (fun _ h9 => h9) rfl (by decide +kernel) rfl rfl (Nat.le_of_ble_eq_true rfl) d_Rd_takeClauses_94 (fun H locs hP hD hS => ?_)
            have hP : va_P (dC, dI) ga_cl [(rd, .inr (3, [.ref sa, .int (nI n), .int (nI (rd_end tx n ((pp + 1 + sv_len 6) + 1))), .int (nI (rd_val tx n ((pp + 1 + sv_len 6) + 1))), .int st, .int mo, .int jo, .int (nI (rd_val tx n ((pp + 1 + sv_len 6) + 1))), .int (bo_I re)])), (sa, .inl (cI, 120, .inl tx))] H := hP
            have hD : va_D A [(rd, .inr (3, [.ref sa, .int (nI n), .int (nI (rd_end tx n ((pp + 1 + sv_len 6) + 1))), .int (nI (rd_val tx n ((pp + 1 + sv_len 6) + 1))), .int st, .int mo, .int jo, .int (nI (rd_val tx n ((pp + 1 + sv_len 6) + 1))), .int (bo_I re)])), (sa, .inl (cI, 120, .inl tx))] := hD
            refine lv_aload_n hx hb d_Rd_takeClauses_97 rfl (lv_at hl 0 rfl) ?_
            refine lv_aload_n hx hb d_Rd_takeClauses_98 rfl (lv_at hl 0 rfl) ?_
            refine va_ldcS hx hb hown (hE.2.2 7 (by decide)).2 d_Rd_takeClauses_99 ?_
            have hF_101 := va_free (wc := [(rd, .inr (3, [.ref sa, .int (nI n), .int (nI (rd_end tx n ((pp + 1 + sv_len 6) + 1))), .int (nI (rd_val tx n ((pp + 1 + sv_len 6) + 1))), .int st, .int mo, .int jo, .int (nI (rd_val tx n ((pp + 1 + sv_len 6) + 1))), .int (bo_I re)])), (sa, .inl (cI, 120, .inl tx))]) hD hS hA [0, 1] rfl
            refine wy_calli (wr := []) (w1 := [(rd, .inr (3, [.ref sa, .int (nI n), .int (nI (cond (rd_next tx n (rd_end tx n ((pp + 1 + sv_len 6) + 1)) (sv_w 7) (sv_len 7)) ((rd_end tx n ((pp + 1 + sv_len 6) + 1)) + 1 + sv_len 7) (rd_end tx n ((pp + 1 + sv_len 6) + 1)))), .int (nI (rd_val tx n ((pp + 1 + sv_len 6) + 1))), .int st, .int mo, .int jo, .int (nI (rd_val tx n ((pp + 1 + sv_len 6) + 1))), .int (bo_I re)])), (sa, .inl (cI, 120, .inl tx))]) (va_runV (As := [.ref (ad 7)]) (rest := [.ref rd]) ⟨hx, hb, hml, hown, hts⟩ (c_Rd_takeNextWord l dC dI H.size ad av rd sa cI tx n (rd_end tx n ((pp + 1 + sv_len 6) + 1)) (nI (rd_val tx n ((pp + 1 + sv_len 6) + 1))) st mo jo (nI (rd_val tx n ((pp + 1 + sv_len 6) + 1))) re 7 (by omega) (by omega) (by decide)) (cwV 1 hts (ga_V kw_280 kw_282 kw_7 kw_35 (ga_in kw_283)) rfl rfl rfl (by decide +kernel) ⟨Nat.le_of_ble_eq_true rfl, Nat.le_of_ble_eq_true rfl⟩) (wy_mreVE 0 (hP.sub (ws' := [(rd, .inr (3, [.ref sa, .int (nI n), .int (nI (rd_end tx n ((pp + 1 + sv_len 6) + 1))), .int (nI (rd_val tx n ((pp + 1 + sv_len 6) + 1))), .int st, .int mo, .int jo, .int (nI (rd_val tx n ((pp + 1 + sv_len 6) + 1))), .int (bo_I re)])), (sa, .inl (cI, 120, .inl tx))]) [0, 1] rfl) (hK.sub (tys' := [(cI, .int)]) [0] rfl) hN (hD.sub (ws' := [(rd, .inr (3, [.ref sa, .int (nI n), .int (nI (rd_end tx n ((pp + 1 + sv_len 6) + 1))), .int (nI (rd_val tx n ((pp + 1 + sv_len 6) + 1))), .int st, .int mo, .int jo, .int (nI (rd_val tx n ((pp + 1 + sv_len 6) + 1))), .int (bo_I re)])), (sa, .inl (cI, 120, .inl tx))]) [0, 1] (by decide) rfl) hE hS hF_101 (ci := 3) rfl rfl rfl) rfl rfl hl.1 rfl (lv_room (Nat.le_of_ble_eq_true rfl)) d_Rd_takeClauses_101 ⟨Nat.le_of_ble_eq_true rfl, Nat.le_of_ble_eq_true rfl⟩) hP hD hS hA [0, 1] [] rfl rfl (by decide) (by decide) (fun H locs hP hD hS => ?_)
            have hP := hP.sub (ws' := [(rd, .inr (3, [.ref sa, .int (nI n), .int (nI (cond (rd_next tx n (rd_end tx n ((pp + 1 + sv_len 6) + 1)) (sv_w 7) (sv_len 7)) ((rd_end tx n ((pp + 1 + sv_len 6) + 1)) + 1 + sv_len 7) (rd_end tx n ((pp + 1 + sv_len 6) + 1)))), .int (nI (rd_val tx n ((pp + 1 + sv_len 6) + 1))), .int st, .int mo, .int jo, .int (nI (rd_val tx n ((pp + 1 + sv_len 6) + 1))), .int (bo_I re)])), (sa, .inl (cI, 120, .inl tx))]) [0, 1] rfl
            have hD := hD.sub (ws' := [(rd, .inr (3, [.ref sa, .int (nI n), .int (nI (cond (rd_next tx n (rd_end tx n ((pp + 1 + sv_len 6) + 1)) (sv_w 7) (sv_len 7)) ((rd_end tx n ((pp + 1 + sv_len 6) + 1)) + 1 + sv_len 7) (rd_end tx n ((pp + 1 + sv_len 6) + 1)))), .int (nI (rd_val tx n ((pp + 1 + sv_len 6) + 1))), .int st, .int mo, .int jo, .int (nI (rd_val tx n ((pp + 1 + sv_len 6) + 1))), .int (bo_I re)])), (sa, .inl (cI, 120, .inl tx))]) [0, 1] (by decide) rfl
            rcases hb_101 : rd_next tx n (rd_end tx n ((pp + 1 + sv_len 6) + 1)) (sv_w 7) (sv_len 7) with _ | _
            · rw [hb_101] at hP hD
              have hP : va_P (dC, dI) ga_cl [(rd, .inr (3, [.ref sa, .int (nI n), .int (nI (rd_end tx n ((pp + 1 + sv_len 6) + 1))), .int (nI (rd_val tx n ((pp + 1 + sv_len 6) + 1))), .int st, .int mo, .int jo, .int (nI (rd_val tx n ((pp + 1 + sv_len 6) + 1))), .int (bo_I re)])), (sa, .inl (cI, 120, .inl tx))] H := hP
              have hD : va_D A [(rd, .inr (3, [.ref sa, .int (nI n), .int (nI (rd_end tx n ((pp + 1 + sv_len 6) + 1))), .int (nI (rd_val tx n ((pp + 1 + sv_len 6) + 1))), .int st, .int mo, .int jo, .int (nI (rd_val tx n ((pp + 1 + sv_len 6) + 1))), .int (bo_I re)])), (sa, .inl (cI, 120, .inl tx))] := hD
              refine va_put (D := (dC, dI)) (ci := 3) (v := .int 0) (ty := .boolean) (C := "PatternText$PatternReader") (T := F_Rd) (N := 9) hx hb hts iw_Rd t_Rd t_Rd_ok n_Rd hown hK hP hD hS 0 rfl rfl 8 (by decide) (hts _ kw_73) (fun _ h9 => h9) rfl (by decide +kernel) rfl rfl (Nat.le_of_ble_eq_true rfl) d_Rd_takeClauses_104 (fun H locs hP hD hS => ?_)
              have hP : va_P (dC, dI) ga_cl [(rd, .inr (3, [.ref sa, .int (nI n), .int (nI (rd_end tx n ((pp + 1 + sv_len 6) + 1))), .int (nI (rd_val tx n ((pp + 1 + sv_len 6) + 1))), .int st, .int mo, .int jo, .int (nI (rd_val tx n ((pp + 1 + sv_len 6) + 1))), .int 0])), (sa, .inl (cI, 120, .inl tx))] H := hP
              have hD : va_D A [(rd, .inr (3, [.ref sa, .int (nI n), .int (nI (rd_end tx n ((pp + 1 + sv_len 6) + 1))), .int (nI (rd_val tx n ((pp + 1 + sv_len 6) + 1))), .int st, .int mo, .int jo, .int (nI (rd_val tx n ((pp + 1 + sv_len 6) + 1))), .int 0])), (sa, .inl (cI, 120, .inl tx))] := hD
              refine lv_iconst (v := 1) hx hb d_Rd_takeClauses_107 (by decide) ?_
              rw [hQ]
              have z9 : rd_cl tx n pp nu mo jo vo re = (true, rd_end tx n ((pp + 1 + sv_len 6) + 1), (nI (rd_val tx n ((pp + 1 + sv_len 6) + 1))), mo, jo, (nI (rd_val tx n ((pp + 1 + sv_len 6) + 1))), false) := by simp only [rd_cl, rd_c1, rd_c2, rd_c3, hb_3, hb_28, hb_64, hb_71, hb_81, hb_101, cond_true, cond_false]
              have q9 : (1 : Int32) = bo_I ((rd_cl tx n pp nu mo jo vo re).1) := by rw [z9]; rfl
              have e9 : ([(rd, .inr (3, [.ref sa, .int (nI n), .int (nI ((rd_cl tx n pp nu mo jo vo re).2.1)), .int ((rd_cl tx n pp nu mo jo vo re).2.2.1), .int st, .int ((rd_cl tx n pp nu mo jo vo re).2.2.2.1), .int ((rd_cl tx n pp nu mo jo vo re).2.2.2.2.1), .int ((rd_cl tx n pp nu mo jo vo re).2.2.2.2.2.1), .int (bo_I ((rd_cl tx n pp nu mo jo vo re).2.2.2.2.2.2))])), (sa, .inl (cI, 120, .inl tx))] : va_W) = [(rd, .inr (3, [.ref sa, .int (nI n), .int (nI (rd_end tx n ((pp + 1 + sv_len 6) + 1))), .int (nI (rd_val tx n ((pp + 1 + sv_len 6) + 1))), .int st, .int mo, .int jo, .int (nI (rd_val tx n ((pp + 1 + sv_len 6) + 1))), .int 0])), (sa, .inl (cI, 120, .inl tx))] := by rw [z9] <;> rfl
              exact W.zret (v := 1) hx hb hr rfl (fun t ht hW => ⟨⟨_, (), rfl, q9, by rw [ht, e9]; exact hP, va_K.moved hW.alike hK, by rw [e9]; exact hD⟩, hS.F ht⟩) hS.2.2 d_Rd_takeClauses_108
            · rw [hb_101] at hP hD
              have hP : va_P (dC, dI) ga_cl [(rd, .inr (3, [.ref sa, .int (nI n), .int (nI ((rd_end tx n ((pp + 1 + sv_len 6) + 1)) + 1 + sv_len 7)), .int (nI (rd_val tx n ((pp + 1 + sv_len 6) + 1))), .int st, .int mo, .int jo, .int (nI (rd_val tx n ((pp + 1 + sv_len 6) + 1))), .int (bo_I re)])), (sa, .inl (cI, 120, .inl tx))] H := hP
              have hD : va_D A [(rd, .inr (3, [.ref sa, .int (nI n), .int (nI ((rd_end tx n ((pp + 1 + sv_len 6) + 1)) + 1 + sv_len 7)), .int (nI (rd_val tx n ((pp + 1 + sv_len 6) + 1))), .int st, .int mo, .int jo, .int (nI (rd_val tx n ((pp + 1 + sv_len 6) + 1))), .int (bo_I re)])), (sa, .inl (cI, 120, .inl tx))] := hD
              refine va_put (D := (dC, dI)) (ci := 3) (v := .int 1) (ty := .boolean) (C := "PatternText$PatternReader") (T := F_Rd) (N := 9) hx hb hts iw_Rd t_Rd t_Rd_ok n_Rd hown hK hP hD hS 0 rfl rfl 8 (by decide) (hts _ kw_73) (fun _ h9 => h9) rfl (by decide +kernel) rfl rfl (Nat.le_of_ble_eq_true rfl) d_Rd_takeClauses_104 (fun H locs hP hD hS => ?_)
              have hP : va_P (dC, dI) ga_cl [(rd, .inr (3, [.ref sa, .int (nI n), .int (nI ((rd_end tx n ((pp + 1 + sv_len 6) + 1)) + 1 + sv_len 7)), .int (nI (rd_val tx n ((pp + 1 + sv_len 6) + 1))), .int st, .int mo, .int jo, .int (nI (rd_val tx n ((pp + 1 + sv_len 6) + 1))), .int 1])), (sa, .inl (cI, 120, .inl tx))] H := hP
              have hD : va_D A [(rd, .inr (3, [.ref sa, .int (nI n), .int (nI ((rd_end tx n ((pp + 1 + sv_len 6) + 1)) + 1 + sv_len 7)), .int (nI (rd_val tx n ((pp + 1 + sv_len 6) + 1))), .int st, .int mo, .int jo, .int (nI (rd_val tx n ((pp + 1 + sv_len 6) + 1))), .int 1])), (sa, .inl (cI, 120, .inl tx))] := hD
              refine lv_iconst (v := 1) hx hb d_Rd_takeClauses_107 (by decide) ?_
              rw [hQ]
              have z9 : rd_cl tx n pp nu mo jo vo re = (true, (rd_end tx n ((pp + 1 + sv_len 6) + 1)) + 1 + sv_len 7, (nI (rd_val tx n ((pp + 1 + sv_len 6) + 1))), mo, jo, (nI (rd_val tx n ((pp + 1 + sv_len 6) + 1))), true) := by simp only [rd_cl, rd_c1, rd_c2, rd_c3, hb_3, hb_28, hb_64, hb_71, hb_81, hb_101, cond_true, cond_false]
              have q9 : (1 : Int32) = bo_I ((rd_cl tx n pp nu mo jo vo re).1) := by rw [z9]; rfl
              have e9 : ([(rd, .inr (3, [.ref sa, .int (nI n), .int (nI ((rd_cl tx n pp nu mo jo vo re).2.1)), .int ((rd_cl tx n pp nu mo jo vo re).2.2.1), .int st, .int ((rd_cl tx n pp nu mo jo vo re).2.2.2.1), .int ((rd_cl tx n pp nu mo jo vo re).2.2.2.2.1), .int ((rd_cl tx n pp nu mo jo vo re).2.2.2.2.2.1), .int (bo_I ((rd_cl tx n pp nu mo jo vo re).2.2.2.2.2.2))])), (sa, .inl (cI, 120, .inl tx))] : va_W) = [(rd, .inr (3, [.ref sa, .int (nI n), .int (nI ((rd_end tx n ((pp + 1 + sv_len 6) + 1)) + 1 + sv_len 7)), .int (nI (rd_val tx n ((pp + 1 + sv_len 6) + 1))), .int st, .int mo, .int jo, .int (nI (rd_val tx n ((pp + 1 + sv_len 6) + 1))), .int 1])), (sa, .inl (cI, 120, .inl tx))] := by rw [z9] <;> rfl
              exact W.zret (v := 1) hx hb hr rfl (fun t ht hW => ⟨⟨_, (), rfl, q9, by rw [ht, e9]; exact hP, va_K.moved hW.alike hK, by rw [e9]; exact hD⟩, hS.F ht⟩) hS.2.2 d_Rd_takeClauses_108
    · rw [hb_28] at hP hD
      have hP : va_P (dC, dI) ga_cl [(rd, .inr (3, [.ref sa, .int (nI n), .int (nI (pp + 1 + sv_len 5)), .int nu, .int st, .int mo, .int jo, .int vo, .int (bo_I re)])), (sa, .inl (cI, 120, .inl tx))] H := hP
      have hD : va_D A [(rd, .inr (3, [.ref sa, .int (nI n), .int (nI (pp + 1 + sv_len 5)), .int nu, .int st, .int mo, .int jo, .int vo, .int (bo_I re)])), (sa, .inl (cI, 120, .inl tx))] := hD
      have l_28 := rd_next_le hb_28
      refine lv_if_eq (tgt := 61) hx hb d_Rd_takeClauses_31 (by decide) (fun z9 => absurd z9 (by decide)) (fun _ => ?_)
      refine lv_aload_n hx hb d_Rd_takeClauses_34 rfl (lv_at hl 0 rfl) ?_
      refine wy_calli (wr := []) (w1 := [(rd, .inr (3, [.ref sa, .int (nI n), .int (nI (cond (rd_sp tx n (pp + 1 + sv_len 5)) ((pp + 1 + sv_len 5) + 1) (pp + 1 + sv_len 5))), .int nu, .int st, .int mo, .int jo, .int vo, .int (bo_I re)])), (sa, .inl (cI, 120, .inl tx))]) (va_runV (As := []) (rest := []) ⟨hx, hb, hml, hown, hts⟩ (c_Rd_takeSpace l dC dI H.size rd sa cI tx n (pp + 1 + sv_len 5) nu st mo jo vo re (by omega) (by omega)) (cwV 0 hts (ga_V kw_254 kw_256 kw_3 kw_35 (ga_in kw_257)) rfl rfl rfl (by decide +kernel) ⟨Nat.le_of_ble_eq_true rfl, Nat.le_of_ble_eq_true rfl⟩) (wy_mreV 0 (hP.sub (ws' := [(rd, .inr (3, [.ref sa, .int (nI n), .int (nI (pp + 1 + sv_len 5)), .int nu, .int st, .int mo, .int jo, .int vo, .int (bo_I re)])), (sa, .inl (cI, 120, .inl tx))]) [0, 1] rfl) (hK.sub (tys' := [(cI, .int)]) [0] rfl) hN (hD.sub (ws' := [(rd, .inr (3, [.ref sa, .int (nI n), .int (nI (pp + 1 + sv_len 5)), .int nu, .int st, .int mo, .int jo, .int vo, .int (bo_I re)])), (sa, .inl (cI, 120, .inl tx))]) [0, 1] (by decide) rfl) (ci := 3) rfl rfl rfl) rfl rfl hl.1 rfl (lv_room (Nat.le_of_ble_eq_true rfl)) d_Rd_takeClauses_35 ⟨Nat.le_of_ble_eq_true rfl, Nat.le_of_ble_eq_true rfl⟩) hP hD hS hA [0, 1] [] rfl rfl (by decide) (by decide) (fun H locs hP hD hS => ?_)
      have hP := hP.sub (ws' := [(rd, .inr (3, [.ref sa, .int (nI n), .int (nI (cond (rd_sp tx n (pp + 1 + sv_len 5)) ((pp + 1 + sv_len 5) + 1) (pp + 1 + sv_len 5))), .int nu, .int st, .int mo, .int jo, .int vo, .int (bo_I re)])), (sa, .inl (cI, 120, .inl tx))]) [0, 1] rfl
      have hD := hD.sub (ws' := [(rd, .inr (3, [.ref sa, .int (nI n), .int (nI (cond (rd_sp tx n (pp + 1 + sv_len 5)) ((pp + 1 + sv_len 5) + 1) (pp + 1 + sv_len 5))), .int nu, .int st, .int mo, .int jo, .int vo, .int (bo_I re)])), (sa, .inl (cI, 120, .inl tx))]) [0, 1] (by decide) rfl
      rcases hb_35 : rd_sp tx n (pp + 1 + sv_len 5) with _ | _
      · rw [hb_35] at hP hD
        have hP : va_P (dC, dI) ga_cl [(rd, .inr (3, [.ref sa, .int (nI n), .int (nI (pp + 1 + sv_len 5)), .int nu, .int st, .int mo, .int jo, .int vo, .int (bo_I re)])), (sa, .inl (cI, 120, .inl tx))] H := hP
        have hD : va_D A [(rd, .inr (3, [.ref sa, .int (nI n), .int (nI (pp + 1 + sv_len 5)), .int nu, .int st, .int mo, .int jo, .int vo, .int (bo_I re)])), (sa, .inl (cI, 120, .inl tx))] := hD
        refine lv_if_eq (tgt := 51) hx hb d_Rd_takeClauses_38 (by decide) (fun _ => ?_) (fun z9 => absurd z9 (by decide))
        refine lv_iconst (v := 0) hx hb d_Rd_takeClauses_51 (by decide) ?_
        rw [hQ]
        have z9 : rd_cl tx n pp nu mo jo vo re = (false, pp + 1 + sv_len 5, nu, mo, jo, vo, re) := by simp only [rd_cl, rd_c1, rd_c2, rd_c3, hb_3, hb_28, hb_35, cond_true, cond_false]
        have q9 : (0 : Int32) = bo_I ((rd_cl tx n pp nu mo jo vo re).1) := by rw [z9]; rfl
        have e9 : ([(rd, .inr (3, [.ref sa, .int (nI n), .int (nI ((rd_cl tx n pp nu mo jo vo re).2.1)), .int ((rd_cl tx n pp nu mo jo vo re).2.2.1), .int st, .int ((rd_cl tx n pp nu mo jo vo re).2.2.2.1), .int ((rd_cl tx n pp nu mo jo vo re).2.2.2.2.1), .int ((rd_cl tx n pp nu mo jo vo re).2.2.2.2.2.1), .int (bo_I ((rd_cl tx n pp nu mo jo vo re).2.2.2.2.2.2))])), (sa, .inl (cI, 120, .inl tx))] : va_W) = [(rd, .inr (3, [.ref sa, .int (nI n), .int (nI (pp + 1 + sv_len 5)), .int nu, .int st, .int mo, .int jo, .int vo, .int (bo_I re)])), (sa, .inl (cI, 120, .inl tx))] := by rw [z9] <;> rfl
        exact W.zret (v := 0) hx hb hr rfl (fun t ht hW => ⟨⟨_, (), rfl, q9, by rw [ht, e9]; exact hP, va_K.moved hW.alike hK, by rw [e9]; exact hD⟩, hS.F ht⟩) hS.2.2 d_Rd_takeClauses_52
      · rw [hb_35] at hP hD
        have hP : va_P (dC, dI) ga_cl [(rd, .inr (3, [.ref sa, .int (nI n), .int (nI ((pp + 1 + sv_len 5) + 1)), .int nu, .int st, .int mo, .int jo, .int vo, .int (bo_I re)])), (sa, .inl (cI, 120, .inl tx))] H := hP
        have hD : va_D A [(rd, .inr (3, [.ref sa, .int (nI n), .int (nI ((pp + 1 + sv_len 5) + 1)), .int nu, .int st, .int mo, .int jo, .int vo, .int (bo_I re)])), (sa, .inl (cI, 120, .inl tx))] := hD
        have l_35 := rd_sp_lt hb_35
        refine lv_if_eq (tgt := 51) hx hb d_Rd_takeClauses_38 (by decide) (fun z9 => absurd z9 (by decide)) (fun _ => ?_)
        refine lv_aload_n hx hb d_Rd_takeClauses_41 rfl (lv_at hl 0 rfl) ?_
        refine lv_iconst (v := 2) hx hb d_Rd_takeClauses_42 (by decide) ?_
        refine lv_bipush (v := 99) hx hb d_Rd_takeClauses_43 (by decide) ?_
        refine wy_calli (wr := []) (w1 := [(rd, .inr (3, [.ref sa, .int (nI n), .int (nI (cond (rd_num tx n 2 99 ((pp + 1 + sv_len 5) + 1)) (rd_end tx n ((pp + 1 + sv_len 5) + 1)) ((pp + 1 + sv_len 5) + 1))), .int (cond (rd_num tx n 2 99 ((pp + 1 + sv_len 5) + 1)) (nI (rd_val tx n ((pp + 1 + sv_len 5) + 1))) nu), .int st, .int mo, .int jo, .int vo, .int (bo_I re)])), (sa, .inl (cI, 120, .inl tx))]) (va_runV (As := [.int 2, .int 99]) (rest := []) ⟨hx, hb, hml, hown, hts⟩ (c_Rd_takeNumber l dC dI H.size rd sa cI tx n ((pp + 1 + sv_len 5) + 1) nu st mo jo vo re 2 99 (by omega) (by omega) (by omega) (by omega)) (cwV 2 hts (ga_V kw_262 kw_264 kw_5 kw_35 (ga_in kw_265)) rfl rfl rfl (by decide +kernel) ⟨Nat.le_of_ble_eq_true rfl, Nat.le_of_ble_eq_true rfl⟩) (wy_mreV 0 (hP.sub (ws' := [(rd, .inr (3, [.ref sa, .int (nI n), .int (nI ((pp + 1 + sv_len 5) + 1)), .int nu, .int st, .int mo, .int jo, .int vo, .int (bo_I re)])), (sa, .inl (cI, 120, .inl tx))]) [0, 1] rfl) (hK.sub (tys' := [(cI, .int)]) [0] rfl) hN (hD.sub (ws' := [(rd, .inr (3, [.ref sa, .int (nI n), .int (nI ((pp + 1 + sv_len 5) + 1)), .int nu, .int st, .int mo, .int jo, .int vo, .int (bo_I re)])), (sa, .inl (cI, 120, .inl tx))]) [0, 1] (by decide) rfl) (ci := 3) rfl rfl rfl) rfl rfl hl.1 rfl (lv_room (Nat.le_of_ble_eq_true rfl)) d_Rd_takeClauses_45 ⟨Nat.le_of_ble_eq_true rfl, Nat.le_of_ble_eq_true rfl⟩) hP hD hS hA [0, 1] [] rfl rfl (by decide) (by decide) (fun H locs hP hD hS => ?_)
        have hP := hP.sub (ws' := [(rd, .inr (3, [.ref sa, .int (nI n), .int (nI (cond (rd_num tx n 2 99 ((pp + 1 + sv_len 5) + 1)) (rd_end tx n ((pp + 1 + sv_len 5) + 1)) ((pp + 1 + sv_len 5) + 1))), .int (cond (rd_num tx n 2 99 ((pp + 1 + sv_len 5) + 1)) (nI (rd_val tx n ((pp + 1 + sv_len 5) + 1))) nu), .int st, .int mo, .int jo, .int vo, .int (bo_I re)])), (sa, .inl (cI, 120, .inl tx))]) [0, 1] rfl
        have hD := hD.sub (ws' := [(rd, .inr (3, [.ref sa, .int (nI n), .int (nI (cond (rd_num tx n 2 99 ((pp + 1 + sv_len 5) + 1)) (rd_end tx n ((pp + 1 + sv_len 5) + 1)) ((pp + 1 + sv_len 5) + 1))), .int (cond (rd_num tx n 2 99 ((pp + 1 + sv_len 5) + 1)) (nI (rd_val tx n ((pp + 1 + sv_len 5) + 1))) nu), .int st, .int mo, .int jo, .int vo, .int (bo_I re)])), (sa, .inl (cI, 120, .inl tx))]) [0, 1] (by decide) rfl
        rcases hb_45 : rd_num tx n 2 99 ((pp + 1 + sv_len 5) + 1) with _ | _
        · rw [hb_45] at hP hD
          have hP : va_P (dC, dI) ga_cl [(rd, .inr (3, [.ref sa, .int (nI n), .int (nI ((pp + 1 + sv_len 5) + 1)), .int nu, .int st, .int mo, .int jo, .int vo, .int (bo_I re)])), (sa, .inl (cI, 120, .inl tx))] H := hP
          have hD : va_D A [(rd, .inr (3, [.ref sa, .int (nI n), .int (nI ((pp + 1 + sv_len 5) + 1)), .int nu, .int st, .int mo, .int jo, .int vo, .int (bo_I re)])), (sa, .inl (cI, 120, .inl tx))] := hD
          refine lv_if_ne (tgt := 53) hx hb d_Rd_takeClauses_48 (by decide) (fun z9 => absurd z9 (by decide)) (fun _ => ?_)
          refine lv_iconst (v := 0) hx hb d_Rd_takeClauses_51 (by decide) ?_
          rw [hQ]
          have z9 : rd_cl tx n pp nu mo jo vo re = (false, (pp + 1 + sv_len 5) + 1, nu, mo, jo, vo, re) := by simp only [rd_cl, rd_c1, rd_c2, rd_c3, hb_3, hb_28, hb_35, hb_45, cond_true, cond_false]
          have q9 : (0 : Int32) = bo_I ((rd_cl tx n pp nu mo jo vo re).1) := by rw [z9]; rfl
          have e9 : ([(rd, .inr (3, [.ref sa, .int (nI n), .int (nI ((rd_cl tx n pp nu mo jo vo re).2.1)), .int ((rd_cl tx n pp nu mo jo vo re).2.2.1), .int st, .int ((rd_cl tx n pp nu mo jo vo re).2.2.2.1), .int ((rd_cl tx n pp nu mo jo vo re).2.2.2.2.1), .int ((rd_cl tx n pp nu mo jo vo re).2.2.2.2.2.1), .int (bo_I ((rd_cl tx n pp nu mo jo vo re).2.2.2.2.2.2))])), (sa, .inl (cI, 120, .inl tx))] : va_W) = [(rd, .inr (3, [.ref sa, .int (nI n), .int (nI ((pp + 1 + sv_len 5) + 1)), .int nu, .int st, .int mo, .int jo, .int vo, .int (bo_I re)])), (sa, .inl (cI, 120, .inl tx))] := by rw [z9] <;> rfl
          exact W.zret (v := 0) hx hb hr rfl (fun t ht hW => ⟨⟨_, (), rfl, q9, by rw [ht, e9]; exact hP, va_K.moved hW.alike hK, by rw [e9]; exact hD⟩, hS.F ht⟩) hS.2.2 d_Rd_takeClauses_52
        · rw [hb_45] at hP hD
          have hP : va_P (dC, dI) ga_cl [(rd, .inr (3, [.ref sa, .int (nI n), .int (nI (rd_end tx n ((pp + 1 + sv_len 5) + 1))), .int (nI (rd_val tx n ((pp + 1 + sv_len 5) + 1))), .int st, .int mo, .int jo, .int vo, .int (bo_I re)])), (sa, .inl (cI, 120, .inl tx))] H := hP
          have hD : va_D A [(rd, .inr (3, [.ref sa, .int (nI n), .int (nI (rd_end tx n ((pp + 1 + sv_len 5) + 1))), .int (nI (rd_val tx n ((pp + 1 + sv_len 5) + 1))), .int st, .int mo, .int jo, .int vo, .int (bo_I re)])), (sa, .inl (cI, 120, .inl tx))] := hD
          have l_45 := rd_end_le (tx := tx) (n := n) (p := _ + 1) l_35
          refine lv_if_ne (tgt := 53) hx hb d_Rd_takeClauses_48 (by decide) (fun _ => ?_) (fun z9 => absurd z9 (by decide))
          refine lv_aload_n hx hb d_Rd_takeClauses_53 rfl (lv_at hl 0 rfl) ?_
          refine lv_aload_n hx hb d_Rd_takeClauses_54 rfl (lv_at hl 0 rfl) ?_
          refine va_get (D := (dC, dI)) (ci := 3) (v := .int (nI (rd_val tx n ((pp + 1 + sv_len 5) + 1)))) (C := "PatternText$PatternReader") (T := F_Rd) (N := 9) hx hb hts iw_Rd hown hK hP 0 rfl rfl 3 (by decide) (hts _ kw_68) (fun _ h9 => h9) rfl d_Rd_takeClauses_55 ?_
          refine va_put (D := (dC, dI)) (ci := 3) (v := .int (nI (rd_val tx n ((pp + 1 + sv_len 5) + 1)))) (ty := .int) (C := "PatternText$PatternReader") (T := F_Rd) (N := 9) hx hb hts iw_Rd t_Rd t_Rd_ok n_Rd hown hK hP hD hS 0 rfl rfl 6 (by decide) (hts _ kw_71) (fun _ h9 => h9) rfl (by decide +kernel) rfl rfl (Nat.le_of_ble_eq_true rfl) d_Rd_takeClauses_58 (fun H locs hP hD hS => ?_)
          have hP : va_P (dC, dI) ga_cl [(rd, .inr (3, [.ref sa, .int (nI n), .int (nI (rd_end tx n ((pp + 1 + sv_len 5) + 1))), .int (nI (rd_val tx n ((pp + 1 + sv_len 5) + 1))), .int st, .int mo, .int (nI (rd_val tx n ((pp + 1 + sv_len 5) + 1))), .int vo, .int (bo_I re)])), (sa, .inl (cI, 120, .inl tx))] H := hP
          have hD : va_D A [(rd, .inr (3, [.ref sa, .int (nI n), .int (nI (rd_end tx n ((pp + 1 + sv_len 5) + 1))), .int (nI (rd_val tx n ((pp + 1 + sv_len 5) + 1))), .int st, .int mo, .int (nI (rd_val tx n ((pp + 1 + sv_len 5) + 1))), .int vo, .int (bo_I re)])), (sa, .inl (cI, 120, .inl tx))] := hD
          refine lv_aload_n hx hb d_Rd_takeClauses_61 rfl (lv_at hl 0 rfl) ?_
          refine va_ldcS hx hb hown (hE.2.2 6 (by decide)).2 d_Rd_takeClauses_62 ?_
          have hF_64 := va_free (wc := [(rd, .inr (3, [.ref sa, .int (nI n), .int (nI (rd_end tx n ((pp + 1 + sv_len 5) + 1))), .int (nI (rd_val tx n ((pp + 1 + sv_len 5) + 1))), .int st, .int mo, .int (nI (rd_val tx n ((pp + 1 + sv_len 5) + 1))), .int vo, .int (bo_I re)])), (sa, .inl (cI, 120, .inl tx))]) hD hS hA [0, 1] rfl
          refine wy_calli (wr := []) (w1 := [(rd, .inr (3, [.ref sa, .int (nI n), .int (nI (cond (rd_next tx n (rd_end tx n ((pp + 1 + sv_len 5) + 1)) (sv_w 6) (sv_len 6)) ((rd_end tx n ((pp + 1 + sv_len 5) + 1)) + 1 + sv_len 6) (rd_end tx n ((pp + 1 + sv_len 5) + 1)))), .int (nI (rd_val tx n ((pp + 1 + sv_len 5) + 1))), .int st, .int mo, .int (nI (rd_val tx n ((pp + 1 + sv_len 5) + 1))), .int vo, .int (bo_I re)])), (sa, .inl (cI, 120, .inl tx))]) (va_runV (As := [.ref (ad 6)]) (rest := []) ⟨hx, hb, hml, hown, hts⟩ (c_Rd_takeNextWord l dC dI H.size ad av rd sa cI tx n (rd_end tx n ((pp + 1 + sv_len 5) + 1)) (nI (rd_val tx n ((pp + 1 + sv_len 5) + 1))) st mo (nI (rd_val tx n ((pp + 1 + sv_len 5) + 1))) vo re 6 (by omega) (by omega) (by decide)) (cwV 1 hts (ga_V kw_280 kw_282 kw_7 kw_35 (ga_in kw_283)) rfl rfl rfl (by decide +kernel) ⟨Nat.le_of_ble_eq_true rfl, Nat.le_of_ble_eq_true rfl⟩) (wy_mreVE 0 (hP.sub (ws' := [(rd, .inr (3, [.ref sa, .int (nI n), .int (nI (rd_end tx n ((pp + 1 + sv_len 5) + 1))), .int (nI (rd_val tx n ((pp + 1 + sv_len 5) + 1))), .int st, .int mo, .int (nI (rd_val tx n ((pp + 1 + sv_len 5) + 1))), .int vo, .int (bo_I re)])), (sa, .inl (cI, 120, .inl tx))]) [0, 1] rfl) (hK.sub (tys' := [(cI, .int)]) [0] rfl) hN (hD.sub (ws' := [(rd, .inr (3, [.ref sa, .int (nI n), .int (nI (rd_end tx n ((pp + 1 + sv_len 5) + 1))), .int (nI (rd_val tx n ((pp + 1 + sv_len 5) + 1))), .int st, .int mo, .int (nI (rd_val tx n ((pp + 1 + sv_len 5) + 1))), .int vo, .int (bo_I re)])), (sa, .inl (cI, 120, .inl tx))]) [0, 1] (by decide) rfl) hE hS hF_64 (ci := 3) rfl rfl rfl) rfl rfl hl.1 rfl (lv_room (Nat.le_of_ble_eq_true rfl)) d_Rd_takeClauses_64 ⟨Nat.le_of_ble_eq_true rfl, Nat.le_of_ble_eq_true rfl⟩) hP hD hS hA [0, 1] [] rfl rfl (by decide) (by decide) (fun H locs hP hD hS => ?_)
          have hP := hP.sub (ws' := [(rd, .inr (3, [.ref sa, .int (nI n), .int (nI (cond (rd_next tx n (rd_end tx n ((pp + 1 + sv_len 5) + 1)) (sv_w 6) (sv_len 6)) ((rd_end tx n ((pp + 1 + sv_len 5) + 1)) + 1 + sv_len 6) (rd_end tx n ((pp + 1 + sv_len 5) + 1)))), .int (nI (rd_val tx n ((pp + 1 + sv_len 5) + 1))), .int st, .int mo, .int (nI (rd_val tx n ((pp + 1 + sv_len 5) + 1))), .int vo, .int (bo_I re)])), (sa, .inl (cI, 120, .inl tx))]) [0, 1] rfl
          have hD := hD.sub (ws' := [(rd, .inr (3, [.ref sa, .int (nI n), .int (nI (cond (rd_next tx n (rd_end tx n ((pp + 1 + sv_len 5) + 1)) (sv_w 6) (sv_len 6)) ((rd_end tx n ((pp + 1 + sv_len 5) + 1)) + 1 + sv_len 6) (rd_end tx n ((pp + 1 + sv_len 5) + 1)))), .int (nI (rd_val tx n ((pp + 1 + sv_len 5) + 1))), .int st, .int mo, .int (nI (rd_val tx n ((pp + 1 + sv_len 5) + 1))), .int vo, .int (bo_I re)])), (sa, .inl (cI, 120, .inl tx))]) [0, 1] (by decide) rfl
          rcases hb_64 : rd_next tx n (rd_end tx n ((pp + 1 + sv_len 5) + 1)) (sv_w 6) (sv_len 6) with _ | _
          · rw [hb_64] at hP hD
            have hP : va_P (dC, dI) ga_cl [(rd, .inr (3, [.ref sa, .int (nI n), .int (nI (rd_end tx n ((pp + 1 + sv_len 5) + 1))), .int (nI (rd_val tx n ((pp + 1 + sv_len 5) + 1))), .int st, .int mo, .int (nI (rd_val tx n ((pp + 1 + sv_len 5) + 1))), .int vo, .int (bo_I re)])), (sa, .inl (cI, 120, .inl tx))] H := hP
            have hD : va_D A [(rd, .inr (3, [.ref sa, .int (nI n), .int (nI (rd_end tx n ((pp + 1 + sv_len 5) + 1))), .int (nI (rd_val tx n ((pp + 1 + sv_len 5) + 1))), .int st, .int mo, .int (nI (rd_val tx n ((pp + 1 + sv_len 5) + 1))), .int vo, .int (bo_I re)])), (sa, .inl (cI, 120, .inl tx))] := hD
            refine lv_if_eq (tgt := 107) hx hb d_Rd_takeClauses_67 (by decide) (fun _ => ?_) (fun z9 => absurd z9 (by decide))
            refine lv_iconst (v := 1) hx hb d_Rd_takeClauses_107 (by decide) ?_
            rw [hQ]
            have z9 : rd_cl tx n pp nu mo jo vo re = (true, rd_end tx n ((pp + 1 + sv_len 5) + 1), (nI (rd_val tx n ((pp + 1 + sv_len 5) + 1))), mo, (nI (rd_val tx n ((pp + 1 + sv_len 5) + 1))), vo, re) := by simp only [rd_cl, rd_c1, rd_c2, rd_c3, hb_3, hb_28, hb_35, hb_45, hb_64, cond_true, cond_false]
            have q9 : (1 : Int32) = bo_I ((rd_cl tx n pp nu mo jo vo re).1) := by rw [z9]; rfl
            have e9 : ([(rd, .inr (3, [.ref sa, .int (nI n), .int (nI ((rd_cl tx n pp nu mo jo vo re).2.1)), .int ((rd_cl tx n pp nu mo jo vo re).2.2.1), .int st, .int ((rd_cl tx n pp nu mo jo vo re).2.2.2.1), .int ((rd_cl tx n pp nu mo jo vo re).2.2.2.2.1), .int ((rd_cl tx n pp nu mo jo vo re).2.2.2.2.2.1), .int (bo_I ((rd_cl tx n pp nu mo jo vo re).2.2.2.2.2.2))])), (sa, .inl (cI, 120, .inl tx))] : va_W) = [(rd, .inr (3, [.ref sa, .int (nI n), .int (nI (rd_end tx n ((pp + 1 + sv_len 5) + 1))), .int (nI (rd_val tx n ((pp + 1 + sv_len 5) + 1))), .int st, .int mo, .int (nI (rd_val tx n ((pp + 1 + sv_len 5) + 1))), .int vo, .int (bo_I re)])), (sa, .inl (cI, 120, .inl tx))] := by rw [z9] <;> rfl
            exact W.zret (v := 1) hx hb hr rfl (fun t ht hW => ⟨⟨_, (), rfl, q9, by rw [ht, e9]; exact hP, va_K.moved hW.alike hK, by rw [e9]; exact hD⟩, hS.F ht⟩) hS.2.2 d_Rd_takeClauses_108
          · rw [hb_64] at hP hD
            have hP : va_P (dC, dI) ga_cl [(rd, .inr (3, [.ref sa, .int (nI n), .int (nI ((rd_end tx n ((pp + 1 + sv_len 5) + 1)) + 1 + sv_len 6)), .int (nI (rd_val tx n ((pp + 1 + sv_len 5) + 1))), .int st, .int mo, .int (nI (rd_val tx n ((pp + 1 + sv_len 5) + 1))), .int vo, .int (bo_I re)])), (sa, .inl (cI, 120, .inl tx))] H := hP
            have hD : va_D A [(rd, .inr (3, [.ref sa, .int (nI n), .int (nI ((rd_end tx n ((pp + 1 + sv_len 5) + 1)) + 1 + sv_len 6)), .int (nI (rd_val tx n ((pp + 1 + sv_len 5) + 1))), .int st, .int mo, .int (nI (rd_val tx n ((pp + 1 + sv_len 5) + 1))), .int vo, .int (bo_I re)])), (sa, .inl (cI, 120, .inl tx))] := hD
            have l_64 := rd_next_le hb_64
            refine lv_if_eq (tgt := 107) hx hb d_Rd_takeClauses_67 (by decide) (fun z9 => absurd z9 (by decide)) (fun _ => ?_)
            refine lv_aload_n hx hb d_Rd_takeClauses_70 rfl (lv_at hl 0 rfl) ?_
            refine wy_calli (wr := []) (w1 := [(rd, .inr (3, [.ref sa, .int (nI n), .int (nI (cond (rd_sp tx n ((rd_end tx n ((pp + 1 + sv_len 5) + 1)) + 1 + sv_len 6)) (((rd_end tx n ((pp + 1 + sv_len 5) + 1)) + 1 + sv_len 6) + 1) ((rd_end tx n ((pp + 1 + sv_len 5) + 1)) + 1 + sv_len 6))), .int (nI (rd_val tx n ((pp + 1 + sv_len 5) + 1))), .int st, .int mo, .int (nI (rd_val tx n ((pp + 1 + sv_len 5) + 1))), .int vo, .int (bo_I re)])), (sa, .inl (cI, 120, .inl tx))]) (va_runV (As := []) (rest := []) ⟨hx, hb, hml, hown, hts⟩ (c_Rd_takeSpace l dC dI H.size rd sa cI tx n ((rd_end tx n ((pp + 1 + sv_len 5) + 1)) + 1 + sv_len 6) (nI (rd_val tx n ((pp + 1 + sv_len 5) + 1))) st mo (nI (rd_val tx n ((pp + 1 + sv_len 5) + 1))) vo re (by omega) (by omega)) (cwV 0 hts (ga_V kw_254 kw_256 kw_3 kw_35 (ga_in kw_257)) rfl rfl rfl (by decide +kernel) ⟨Nat.le_of_ble_eq_true rfl, Nat.le_of_ble_eq_true rfl⟩) (wy_mreV 0 (hP.sub (ws' := [(rd, .inr (3, [.ref sa, .int (nI n), .int (nI ((rd_end tx n ((pp + 1 + sv_len 5) + 1)) + 1 + sv_len 6)), .int (nI (rd_val tx n ((pp + 1 + sv_len 5) + 1))), .int st, .int mo, .int (nI (rd_val tx n ((pp + 1 + sv_len 5) + 1))), .int vo, .int (bo_I re)])), (sa, .inl (cI, 120, .inl tx))]) [0, 1] rfl) (hK.sub (tys' := [(cI, .int)]) [0] rfl) hN (hD.sub (ws' := [(rd, .inr (3, [.ref sa, .int (nI n), .int (nI ((rd_end tx n ((pp + 1 + sv_len 5) + 1)) + 1 + sv_len 6)), .int (nI (rd_val tx n ((pp + 1 + sv_len 5) + 1))), .int st, .int mo, .int (nI (rd_val tx n ((pp + 1 + sv_len 5) + 1))), .int vo, .int (bo_I re)])), (sa, .inl (cI, 120, .inl tx))]) [0, 1] (by decide) rfl) (ci := 3) rfl rfl rfl) rfl rfl hl.1 rfl (lv_room (Nat.le_of_ble_eq_true rfl)) d_Rd_takeClauses_71 ⟨Nat.le_of_ble_eq_true rfl, Nat.le_of_ble_eq_true rfl⟩) hP hD hS hA [0, 1] [] rfl rfl (by decide) (by decide) (fun H locs hP hD hS => ?_)
            have hP := hP.sub (ws' := [(rd, .inr (3, [.ref sa, .int (nI n), .int (nI (cond (rd_sp tx n ((rd_end tx n ((pp + 1 + sv_len 5) + 1)) + 1 + sv_len 6)) (((rd_end tx n ((pp + 1 + sv_len 5) + 1)) + 1 + sv_len 6) + 1) ((rd_end tx n ((pp + 1 + sv_len 5) + 1)) + 1 + sv_len 6))), .int (nI (rd_val tx n ((pp + 1 + sv_len 5) + 1))), .int st, .int mo, .int (nI (rd_val tx n ((pp + 1 + sv_len 5) + 1))), .int vo, .int (bo_I re)])), (sa, .inl (cI, 120, .inl tx))]) [0, 1] rfl
            have hD := hD.sub (ws' := [(rd, .inr (3, [.ref sa, .int (nI n), .int (nI (cond (rd_sp tx n ((rd_end tx n ((pp + 1 + sv_len 5) + 1)) + 1 + sv_len 6)) (((rd_end tx n ((pp + 1 + sv_len 5) + 1)) + 1 + sv_len 6) + 1) ((rd_end tx n ((pp + 1 + sv_len 5) + 1)) + 1 + sv_len 6))), .int (nI (rd_val tx n ((pp + 1 + sv_len 5) + 1))), .int st, .int mo, .int (nI (rd_val tx n ((pp + 1 + sv_len 5) + 1))), .int vo, .int (bo_I re)])), (sa, .inl (cI, 120, .inl tx))]) [0, 1] (by decide) rfl
            rcases hb_71 : rd_sp tx n ((rd_end tx n ((pp + 1 + sv_len 5) + 1)) + 1 + sv_len 6) with _ | _
            · rw [hb_71] at hP hD
              have hP : va_P (dC, dI) ga_cl [(rd, .inr (3, [.ref sa, .int (nI n), .int (nI ((rd_end tx n ((pp + 1 + sv_len 5) + 1)) + 1 + sv_len 6)), .int (nI (rd_val tx n ((pp + 1 + sv_len 5) + 1))), .int st, .int mo, .int (nI (rd_val tx n ((pp + 1 + sv_len 5) + 1))), .int vo, .int (bo_I re)])), (sa, .inl (cI, 120, .inl tx))] H := hP
              have hD : va_D A [(rd, .inr (3, [.ref sa, .int (nI n), .int (nI ((rd_end tx n ((pp + 1 + sv_len 5) + 1)) + 1 + sv_len 6)), .int (nI (rd_val tx n ((pp + 1 + sv_len 5) + 1))), .int st, .int mo, .int (nI (rd_val tx n ((pp + 1 + sv_len 5) + 1))), .int vo, .int (bo_I re)])), (sa, .inl (cI, 120, .inl tx))] := hD
              refine lv_if_eq (tgt := 87) hx hb d_Rd_takeClauses_74 (by decide) (fun _ => ?_) (fun z9 => absurd z9 (by decide))
              refine lv_iconst (v := 0) hx hb d_Rd_takeClauses_87 (by decide) ?_
              rw [hQ]
              have z9 : rd_cl tx n pp nu mo jo vo re = (false, (rd_end tx n ((pp + 1 + sv_len 5) + 1)) + 1 + sv_len 6, (nI (rd_val tx n ((pp + 1 + sv_len 5) + 1))), mo, (nI (rd_val tx n ((pp + 1 + sv_len 5) + 1))), vo, re) := by simp only [rd_cl, rd_c1, rd_c2, rd_c3, hb_3, hb_28, hb_35, hb_45, hb_64, hb_71, cond_true, cond_false]
              have q9 : (0 : Int32) = bo_I ((rd_cl tx n pp nu mo jo vo re).1) := by rw [z9]; rfl
              have e9 : ([(rd, .inr (3, [.ref sa, .int (nI n), .int (nI ((rd_cl tx n pp nu mo jo vo re).2.1)), .int ((rd_cl tx n pp nu mo jo vo re).2.2.1), .int st, .int ((rd_cl tx n pp nu mo jo vo re).2.2.2.1), .int ((rd_cl tx n pp nu mo jo vo re).2.2.2.2.1), .int ((rd_cl tx n pp nu mo jo vo re).2.2.2.2.2.1), .int (bo_I ((rd_cl tx n pp nu mo jo vo re).2.2.2.2.2.2))])), (sa, .inl (cI, 120, .inl tx))] : va_W) = [(rd, .inr (3, [.ref sa, .int (nI n), .int (nI ((rd_end tx n ((pp + 1 + sv_len 5) + 1)) + 1 + sv_len 6)), .int (nI (rd_val tx n ((pp + 1 + sv_len 5) + 1))), .int st, .int mo, .int (nI (rd_val tx n ((pp + 1 + sv_len 5) + 1))), .int vo, .int (bo_I re)])), (sa, .inl (cI, 120, .inl tx))] := by rw [z9] <;> rfl
              exact W.zret (v := 0) hx hb hr rfl (fun t ht hW => ⟨⟨_, (), rfl, q9, by rw [ht, e9]; exact hP, va_K.moved hW.alike hK, by rw [e9]; exact hD⟩, hS.F ht⟩) hS.2.2 d_Rd_takeClauses_88
            · rw [hb_71] at hP hD
              have hP : va_P (dC, dI) ga_cl [(rd, .inr (3, [.ref sa, .int (nI n), .int (nI (((rd_end tx n ((pp + 1 + sv_len 5) + 1)) + 1 + sv_len 6) + 1)), .int (nI (rd_val tx n ((pp + 1 + sv_len 5) + 1))), .int st, .int mo, .int (nI (rd_val tx n ((pp + 1 + sv_len 5) + 1))), .int vo, .int (bo_I re)])), (sa, .inl (cI, 120, .inl tx))] H := hP
              have hD : va_D A [(rd, .inr (3, [.ref sa, .int (nI n), .int (nI (((rd_end tx n ((pp + 1 + sv_len 5) + 1)) + 1 + sv_len 6) + 1)), .int (nI (rd_val tx n ((pp + 1 + sv_len 5) + 1))), .int st, .int mo, .int (nI (rd_val tx n ((pp + 1 + sv_len 5) + 1))), .int vo, .int (bo_I re)])), (sa, .inl (cI, 120, .inl tx))] := hD
              have l_71 := rd_sp_lt hb_71
              refine lv_if_eq (tgt := 87) hx hb d_Rd_takeClauses_74 (by decide) (fun z9 => absurd z9 (by decide)) (fun _ => ?_)
              refine lv_aload_n hx hb d_Rd_takeClauses_77 rfl (lv_at hl 0 rfl) ?_
              refine lv_iconst (v := 1) hx hb d_Rd_takeClauses_78 (by decide) ?_
              refine lv_bipush (v := 99) hx hb d_Rd_takeClauses_79 (by decide) ?_
              refine wy_calli (wr := []) (w1 := [(rd, .inr (3, [.ref sa, .int (nI n), .int (nI (cond (rd_num tx n 1 99 (((rd_end tx n ((pp + 1 + sv_len 5) + 1)) + 1 + sv_len 6) + 1)) (rd_end tx n (((rd_end tx n ((pp + 1 + sv_len 5) + 1)) + 1 + sv_len 6) + 1)) (((rd_end tx n ((pp + 1 + sv_len 5) + 1)) + 1 + sv_len 6) + 1))), .int (cond (rd_num tx n 1 99 (((rd_end tx n ((pp + 1 + sv_len 5) + 1)) + 1 + sv_len 6) + 1)) (nI (rd_val tx n (((rd_end tx n ((pp + 1 + sv_len 5) + 1)) + 1 + sv_len 6) + 1))) (nI (rd_val tx n ((pp + 1 + sv_len 5) + 1)))), .int st, .int mo, .int (nI (rd_val tx n ((pp + 1 + sv_len 5) + 1))), .int vo, .int (bo_I re)])), (sa, .inl (cI, 120, .inl tx))]) (va_runV (As := [.int 1, .int 99]) (rest := []) ⟨hx, hb, hml, hown, hts⟩ (c_Rd_takeNumber l dC dI H.size rd sa cI tx n (((rd_end tx n ((pp + 1 + sv_len 5) + 1)) + 1 + sv_len 6) + 1) (nI (rd_val tx n ((pp + 1 + sv_len 5) + 1))) st mo (nI (rd_val tx n ((pp + 1 + sv_len 5) + 1))) vo re 1 99 (by omega) (by omega) (by omega) (by omega)) (cwV 2 hts (ga_V kw_262 kw_264 kw_5 kw_35 (ga_in kw_265)) rfl rfl rfl (by decide +kernel) ⟨Nat.le_of_ble_eq_true rfl, Nat.le_of_ble_eq_true rfl⟩) (wy_mreV 0 (hP.sub (ws' := [(rd, .inr (3, [.ref sa, .int (nI n), .int (nI (((rd_end tx n ((pp + 1 + sv_len 5) + 1)) + 1 + sv_len 6) + 1)), .int (nI (rd_val tx n ((pp + 1 + sv_len 5) + 1))), .int st, .int mo, .int (nI (rd_val tx n ((pp + 1 + sv_len 5) + 1))), .int vo, .int (bo_I re)])), (sa, .inl (cI, 120, .inl tx))]) [0, 1] rfl) (hK.sub (tys' := [(cI, .int)]) [0] rfl) hN (hD.sub (ws' := [(rd, .inr (3, [.ref sa, .int (nI n), .int (nI (((rd_end tx n ((pp + 1 + sv_len 5) + 1)) + 1 + sv_len 6) + 1)), .int (nI (rd_val tx n ((pp + 1 + sv_len 5) + 1))), .int st, .int mo, .int (nI (rd_val tx n ((pp + 1 + sv_len 5) + 1))), .int vo, .int (bo_I re)])), (sa, .inl (cI, 120, .inl tx))]) [0, 1] (by decide) rfl) (ci := 3) rfl rfl rfl) rfl rfl hl.1 rfl (lv_room (Nat.le_of_ble_eq_true rfl)) d_Rd_takeClauses_81 ⟨Nat.le_of_ble_eq_true rfl, Nat.le_of_ble_eq_true rfl⟩) hP hD hS hA [0, 1] [] rfl rfl (by decide) (by decide) (fun H locs hP hD hS => ?_)
              have hP := hP.sub (ws' := [(rd, .inr (3, [.ref sa, .int (nI n), .int (nI (cond (rd_num tx n 1 99 (((rd_end tx n ((pp + 1 + sv_len 5) + 1)) + 1 + sv_len 6) + 1)) (rd_end tx n (((rd_end tx n ((pp + 1 + sv_len 5) + 1)) + 1 + sv_len 6) + 1)) (((rd_end tx n ((pp + 1 + sv_len 5) + 1)) + 1 + sv_len 6) + 1))), .int (cond (rd_num tx n 1 99 (((rd_end tx n ((pp + 1 + sv_len 5) + 1)) + 1 + sv_len 6) + 1)) (nI (rd_val tx n (((rd_end tx n ((pp + 1 + sv_len 5) + 1)) + 1 + sv_len 6) + 1))) (nI (rd_val tx n ((pp + 1 + sv_len 5) + 1)))), .int st, .int mo, .int (nI (rd_val tx n ((pp + 1 + sv_len 5) + 1))), .int vo, .int (bo_I re)])), (sa, .inl (cI, 120, .inl tx))]) [0, 1] rfl
              have hD := hD.sub (ws' := [(rd, .inr (3, [.ref sa, .int (nI n), .int (nI (cond (rd_num tx n 1 99 (((rd_end tx n ((pp + 1 + sv_len 5) + 1)) + 1 + sv_len 6) + 1)) (rd_end tx n (((rd_end tx n ((pp + 1 + sv_len 5) + 1)) + 1 + sv_len 6) + 1)) (((rd_end tx n ((pp + 1 + sv_len 5) + 1)) + 1 + sv_len 6) + 1))), .int (cond (rd_num tx n 1 99 (((rd_end tx n ((pp + 1 + sv_len 5) + 1)) + 1 + sv_len 6) + 1)) (nI (rd_val tx n (((rd_end tx n ((pp + 1 + sv_len 5) + 1)) + 1 + sv_len 6) + 1))) (nI (rd_val tx n ((pp + 1 + sv_len 5) + 1)))), .int st, .int mo, .int (nI (rd_val tx n ((pp + 1 + sv_len 5) + 1))), .int vo, .int (bo_I re)])), (sa, .inl (cI, 120, .inl tx))]) [0, 1] (by decide) rfl
              rcases hb_81 : rd_num tx n 1 99 (((rd_end tx n ((pp + 1 + sv_len 5) + 1)) + 1 + sv_len 6) + 1) with _ | _
              · rw [hb_81] at hP hD
                have hP : va_P (dC, dI) ga_cl [(rd, .inr (3, [.ref sa, .int (nI n), .int (nI (((rd_end tx n ((pp + 1 + sv_len 5) + 1)) + 1 + sv_len 6) + 1)), .int (nI (rd_val tx n ((pp + 1 + sv_len 5) + 1))), .int st, .int mo, .int (nI (rd_val tx n ((pp + 1 + sv_len 5) + 1))), .int vo, .int (bo_I re)])), (sa, .inl (cI, 120, .inl tx))] H := hP
                have hD : va_D A [(rd, .inr (3, [.ref sa, .int (nI n), .int (nI (((rd_end tx n ((pp + 1 + sv_len 5) + 1)) + 1 + sv_len 6) + 1)), .int (nI (rd_val tx n ((pp + 1 + sv_len 5) + 1))), .int st, .int mo, .int (nI (rd_val tx n ((pp + 1 + sv_len 5) + 1))), .int vo, .int (bo_I re)])), (sa, .inl (cI, 120, .inl tx))] := hD
                refine lv_if_ne (tgt := 89) hx hb d_Rd_takeClauses_84 (by decide) (fun z9 => absurd z9 (by decide)) (fun _ => ?_)
                refine lv_iconst (v := 0) hx hb d_Rd_takeClauses_87 (by decide) ?_
                rw [hQ]
                have z9 : rd_cl tx n pp nu mo jo vo re = (false, ((rd_end tx n ((pp + 1 + sv_len 5) + 1)) + 1 + sv_len 6) + 1, (nI (rd_val tx n ((pp + 1 + sv_len 5) + 1))), mo, (nI (rd_val tx n ((pp + 1 + sv_len 5) + 1))), vo, re) := by simp only [rd_cl, rd_c1, rd_c2, rd_c3, hb_3, hb_28, hb_35, hb_45, hb_64, hb_71, hb_81, cond_true, cond_false]
                have q9 : (0 : Int32) = bo_I ((rd_cl tx n pp nu mo jo vo re).1) := by rw [z9]; rfl
                have e9 : ([(rd, .inr (3, [.ref sa, .int (nI n), .int (nI ((rd_cl tx n pp nu mo jo vo re).2.1)), .int ((rd_cl tx n pp nu mo jo vo re).2.2.1), .int st, .int ((rd_cl tx n pp nu mo jo vo re).2.2.2.1), .int ((rd_cl tx n pp nu mo jo vo re).2.2.2.2.1), .int ((rd_cl tx n pp nu mo jo vo re).2.2.2.2.2.1), .int (bo_I ((rd_cl tx n pp nu mo jo vo re).2.2.2.2.2.2))])), (sa, .inl (cI, 120, .inl tx))] : va_W) = [(rd, .inr (3, [.ref sa, .int (nI n), .int (nI (((rd_end tx n ((pp + 1 + sv_len 5) + 1)) + 1 + sv_len 6) + 1)), .int (nI (rd_val tx n ((pp + 1 + sv_len 5) + 1))), .int st, .int mo, .int (nI (rd_val tx n ((pp + 1 + sv_len 5) + 1))), .int vo, .int (bo_I re)])), (sa, .inl (cI, 120, .inl tx))] := by rw [z9] <;> rfl
                exact W.zret (v := 0) hx hb hr rfl (fun t ht hW => ⟨⟨_, (), rfl, q9, by rw [ht, e9]; exact hP, va_K.moved hW.alike hK, by rw [e9]; exact hD⟩, hS.F ht⟩) hS.2.2 d_Rd_takeClauses_88
              · rw [hb_81] at hP hD
                have hP : va_P (dC, dI) ga_cl [(rd, .inr (3, [.ref sa, .int (nI n), .int (nI (rd_end tx n (((rd_end tx n ((pp + 1 + sv_len 5) + 1)) + 1 + sv_len 6) + 1))), .int (nI (rd_val tx n (((rd_end tx n ((pp + 1 + sv_len 5) + 1)) + 1 + sv_len 6) + 1))), .int st, .int mo, .int (nI (rd_val tx n ((pp + 1 + sv_len 5) + 1))), .int vo, .int (bo_I re)])), (sa, .inl (cI, 120, .inl tx))] H := hP
                have hD : va_D A [(rd, .inr (3, [.ref sa, .int (nI n), .int (nI (rd_end tx n (((rd_end tx n ((pp + 1 + sv_len 5) + 1)) + 1 + sv_len 6) + 1))), .int (nI (rd_val tx n (((rd_end tx n ((pp + 1 + sv_len 5) + 1)) + 1 + sv_len 6) + 1))), .int st, .int mo, .int (nI (rd_val tx n ((pp + 1 + sv_len 5) + 1))), .int vo, .int (bo_I re)])), (sa, .inl (cI, 120, .inl tx))] := hD
                have l_81 := rd_end_le (tx := tx) (n := n) (p := _ + 1) l_71
                refine lv_if_ne (tgt := 89) hx hb d_Rd_takeClauses_84 (by decide) (fun _ => ?_) (fun z9 => absurd z9 (by decide))
                refine lv_aload_n hx hb d_Rd_takeClauses_89 rfl (lv_at hl 0 rfl) ?_
                refine lv_aload_n hx hb d_Rd_takeClauses_90 rfl (lv_at hl 0 rfl) ?_
                refine va_get (D := (dC, dI)) (ci := 3) (v := .int (nI (rd_val tx n (((rd_end tx n ((pp + 1 + sv_len 5) + 1)) + 1 + sv_len 6) + 1)))) (C := "PatternText$PatternReader") (T := F_Rd) (N := 9) hx hb hts iw_Rd hown hK hP 0 rfl rfl 3 (by decide) (hts _ kw_68) (fun _ h9 => h9) rfl d_Rd_takeClauses_91 ?_
                refine va_put (D := (dC, dI)) (ci := 3) (v := .int (nI (rd_val tx n (((rd_end tx n ((pp + 1 + sv_len 5) + 1)) + 1 + sv_len 6) + 1)))) (ty := .int) (C := "PatternText$PatternReader") (T := F_Rd) (N := 9) hx hb hts iw_Rd t_Rd t_Rd_ok n_Rd hown hK hP hD hS 0 rfl rfl 7 (by decide) (hts _ kw_72) (fun _ h9 => h9) rfl (by decide +kernel) rfl rfl (Nat.le_of_ble_eq_true rfl) d_Rd_takeClauses_94 (fun H locs hP hD hS => ?_)
                have hP : va_P (dC, dI) ga_cl [(rd, .inr (3, [.ref sa, .int (nI n), .int (nI (rd_end tx n (((rd_end tx n ((pp + 1 + sv_len 5) + 1)) + 1 + sv_len 6) + 1))), .int (nI (rd_val tx n (((rd_end tx n ((pp + 1 + sv_len 5) + 1)) + 1 + sv_len 6) + 1))), .int st, .int mo, .int (nI (rd_val tx n ((pp + 1 + sv_len 5) + 1))), .int (nI (rd_val tx n (((rd_end tx n ((pp + 1 + sv_len 5) + 1)) + 1 + sv_len 6) + 1))), .int (bo_I re)])), (sa, .inl (cI, 120, .inl tx))] H := hP
                have hD : va_D A [(rd, .inr (3, [.ref sa, .int (nI n), .int (nI (rd_end tx n (((rd_end tx n ((pp + 1 + sv_len 5) + 1)) + 1 + sv_len 6) + 1))), .int (nI (rd_val tx n (((rd_end tx n ((pp + 1 + sv_len 5) + 1)) + 1 + sv_len 6) + 1))), .int st, .int mo, .int (nI (rd_val tx n ((pp + 1 + sv_len 5) + 1))), .int (nI (rd_val tx n (((rd_end tx n ((pp + 1 + sv_len 5) + 1)) + 1 + sv_len 6) + 1))), .int (bo_I re)])), (sa, .inl (cI, 120, .inl tx))] := hD
                refine lv_aload_n hx hb d_Rd_takeClauses_97 rfl (lv_at hl 0 rfl) ?_
                refine lv_aload_n hx hb d_Rd_takeClauses_98 rfl (lv_at hl 0 rfl) ?_
                refine va_ldcS hx hb hown (hE.2.2 7 (by decide)).2 d_Rd_takeClauses_99 ?_
                have hF_101 := va_free (wc := [(rd, .inr (3, [.ref sa, .int (nI n), .int (nI (rd_end tx n (((rd_end tx n ((pp + 1 + sv_len 5) + 1)) + 1 + sv_len 6) + 1))), .int (nI (rd_val tx n (((rd_end tx n ((pp + 1 + sv_len 5) + 1)) + 1 + sv_len 6) + 1))), .int st, .int mo, .int (nI (rd_val tx n ((pp + 1 + sv_len 5) + 1))), .int (nI (rd_val tx n (((rd_end tx n ((pp + 1 + sv_len 5) + 1)) + 1 + sv_len 6) + 1))), .int (bo_I re)])), (sa, .inl (cI, 120, .inl tx))]) hD hS hA [0, 1] rfl
                refine wy_calli (wr := []) (w1 := [(rd, .inr (3, [.ref sa, .int (nI n), .int (nI (cond (rd_next tx n (rd_end tx n (((rd_end tx n ((pp + 1 + sv_len 5) + 1)) + 1 + sv_len 6) + 1)) (sv_w 7) (sv_len 7)) ((rd_end tx n (((rd_end tx n ((pp + 1 + sv_len 5) + 1)) + 1 + sv_len 6) + 1)) + 1 + sv_len 7) (rd_end tx n (((rd_end tx n ((pp + 1 + sv_len 5) + 1)) + 1 + sv_len 6) + 1)))), .int (nI (rd_val tx n (((rd_end tx n ((pp + 1 + sv_len 5) + 1)) + 1 + sv_len 6) + 1))), .int st, .int mo, .int (nI (rd_val tx n ((pp + 1 + sv_len 5) + 1))), .int (nI (rd_val tx n (((rd_end tx n ((pp + 1 + sv_len 5) + 1)) + 1 + sv_len 6) + 1))), .int (bo_I re)])), (sa, .inl (cI, 120, .inl tx))]) (va_runV (As := [.ref (ad 7)]) (rest := [.ref rd]) ⟨hx, hb, hml, hown, hts⟩ (c_Rd_takeNextWord l dC dI H.size ad av rd sa cI tx n (rd_end tx n (((rd_end tx n ((pp + 1 + sv_len 5) + 1)) + 1 + sv_len 6) + 1)) (nI (rd_val tx n (((rd_end tx n ((pp + 1 + sv_len 5) + 1)) + 1 + sv_len 6) + 1))) st mo (nI (rd_val tx n ((pp + 1 + sv_len 5) + 1))) (nI (rd_val tx n (((rd_end tx n ((pp + 1 + sv_len 5) + 1)) + 1 + sv_len 6) + 1))) re 7 (by omega) (by omega) (by decide)) (cwV 1 hts (ga_V kw_280 kw_282 kw_7 kw_35 (ga_in kw_283)) rfl rfl rfl (by decide +kernel) ⟨Nat.le_of_ble_eq_true rfl, Nat.le_of_ble_eq_true rfl⟩) (wy_mreVE 0 (hP.sub (ws' := [(rd, .inr (3, [.ref sa, .int (nI n), .int (nI (rd_end tx n (((rd_end tx n ((pp + 1 + sv_len 5) + 1)) + 1 + sv_len 6) + 1))), .int (nI (rd_val tx n (((rd_end tx n ((pp + 1 + sv_len 5) + 1)) + 1 + sv_len 6) + 1))), .int st, .int mo, .int (nI (rd_val tx n ((pp + 1 + sv_len 5) + 1))), .int (nI (rd_val tx n (((rd_end tx n ((pp + 1 + sv_len 5) + 1)) + 1 + sv_len 6) + 1))), .int (bo_I re)])), (sa, .inl (cI, 120, .inl tx))]) [0, 1] rfl) (hK.sub (tys' := [(cI, .int)]) [0] rfl) hN (hD.sub (ws' := [(rd, .inr (3, [.ref sa, .int (nI n), .int (nI (rd_end tx n (((rd_end tx n ((pp + 1 + sv_len 5) + 1)) + 1 + sv_len 6) + 1))), .int (nI (rd_val tx n (((rd_end tx n ((pp + 1 + sv_len 5) + 1)) + 1 + sv_len 6) + 1))), .int st, .int mo, .int (nI (rd_val tx n ((pp + 1 + sv_len 5) + 1))), .int (nI (rd_val tx n (((rd_end tx n ((pp + 1 + sv_len 5) + 1)) + 1 + sv_len 6) + 1))), .int (bo_I re)])), (sa, .inl (cI, 120, .inl tx))]) [0, 1] (by decide) rfl) hE hS hF_101 (ci := 3) rfl rfl rfl) rfl rfl hl.1 rfl (lv_room (Nat.le_of_ble_eq_true rfl)) d_Rd_takeClauses_101 ⟨Nat.le_of_ble_eq_true rfl, Nat.le_of_ble_eq_true rfl⟩) hP hD hS hA [0, 1] [] rfl rfl (by decide) (by decide) (fun H locs hP hD hS => ?_)
                have hP := hP.sub (ws' := [(rd, .inr (3, [.ref sa, .int (nI n), .int (nI (cond (rd_next tx n (rd_end tx n (((rd_end tx n ((pp + 1 + sv_len 5) + 1)) + 1 + sv_len 6) + 1)) (sv_w 7) (sv_len 7)) ((rd_end tx n (((rd_end tx n ((pp + 1 + sv_len 5) + 1)) + 1 + sv_len 6) + 1)) + 1 + sv_len 7) (rd_end tx n (((rd_end tx n ((pp + 1 + sv_len 5) + 1)) + 1 + sv_len 6) + 1)))), .int (nI (rd_val tx n (((rd_end tx n ((pp + 1 + sv_len 5) + 1)) + 1 + sv_len 6) + 1))), .int st, .int mo, .int (nI (rd_val tx n ((pp + 1 + sv_len 5) + 1))), .int (nI (rd_val tx n (((rd_end tx n ((pp + 1 + sv_len 5) + 1)) + 1 + sv_len 6) + 1))), .int (bo_I re)])), (sa, .inl (cI, 120, .inl tx))]) [0, 1] rfl
                have hD := hD.sub (ws' := [(rd, .inr (3, [.ref sa, .int (nI n), .int (nI (cond (rd_next tx n (rd_end tx n (((rd_end tx n ((pp + 1 + sv_len 5) + 1)) + 1 + sv_len 6) + 1)) (sv_w 7) (sv_len 7)) ((rd_end tx n (((rd_end tx n ((pp + 1 + sv_len 5) + 1)) + 1 + sv_len 6) + 1)) + 1 + sv_len 7) (rd_end tx n (((rd_end tx n ((pp + 1 + sv_len 5) + 1)) + 1 + sv_len 6) + 1)))), .int (nI (rd_val tx n (((rd_end tx n ((pp + 1 + sv_len 5) + 1)) + 1 + sv_len 6) + 1))), .int st, .int mo, .int (nI (rd_val tx n ((pp + 1 + sv_len 5) + 1))), .int (nI (rd_val tx n (((rd_end tx n ((pp + 1 + sv_len 5) + 1)) + 1 + sv_len 6) + 1))), .int (bo_I re)])), (sa, .inl (cI, 120, .inl tx))]) [0, 1] (by decide) rfl
                rcases hb_101 : rd_next tx n (rd_end tx n (((rd_end tx n ((pp + 1 + sv_len 5) + 1)) + 1 + sv_len 6) + 1)) (sv_w 7) (sv_len 7) with _ | _
                · rw [hb_101] at hP hD
                  have hP : va_P (dC, dI) ga_cl [(rd, .inr (3, [.ref sa, .int (nI n), .int (nI (rd_end tx n (((rd_end tx n ((pp + 1 + sv_len 5) + 1)) + 1 + sv_len 6) + 1))), .int (nI (rd_val tx n (((rd_end tx n ((pp + 1 + sv_len 5) + 1)) + 1 + sv_len 6) + 1))), .int st, .int mo, .int (nI (rd_val tx n ((pp + 1 + sv_len 5) + 1))), .int (nI (rd_val tx n (((rd_end tx n ((pp + 1 + sv_len 5) + 1)) + 1 + sv_len 6) + 1))), .int (bo_I re)])), (sa, .inl (cI, 120, .inl tx))] H := hP
                  have hD : va_D A [(rd, .inr (3, [.ref sa, .int (nI n), .int (nI (rd_end tx n (((rd_end tx n ((pp + 1 + sv_len 5) + 1)) + 1 + sv_len 6) + 1))), .int (nI (rd_val tx n (((rd_end tx n ((pp + 1 + sv_len 5) + 1)) + 1 + sv_len 6) + 1))), .int st, .int mo, .int (nI (rd_val tx n ((pp + 1 + sv_len 5) + 1))), .int (nI (rd_val tx n (((rd_end tx n ((pp + 1 + sv_len 5) + 1)) + 1 + sv_len 6) + 1))), .int (bo_I re)])), (sa, .inl (cI, 120, .inl tx))] := hD
                  refine va_put (D := (dC, dI)) (ci := 3) (v := .int 0) (ty := .boolean) (C := "PatternText$PatternReader") (T := F_Rd) (N := 9) hx hb hts iw_Rd t_Rd t_Rd_ok n_Rd hown hK hP hD hS 0 rfl rfl 8 (by decide) (hts _ kw_73) (fun _ h9 => h9) rfl (by decide +kernel) rfl rfl (Nat.le_of_ble_eq_true rfl) d_Rd_takeClauses_104 (fun H locs hP hD hS => ?_)
                  have hP : va_P (dC, dI) ga_cl [(rd, .inr (3, [.ref sa, .int (nI n), .int (nI (rd_end tx n (((rd_end tx n ((pp + 1 + sv_len 5) + 1)) + 1 + sv_len 6) + 1))), .int (nI (rd_val tx n (((rd_end tx n ((pp + 1 + sv_len 5) + 1)) + 1 + sv_len 6) + 1))), .int st, .int mo, .int (nI (rd_val tx n ((pp + 1 + sv_len 5) + 1))), .int (nI (rd_val tx n (((rd_end tx n ((pp + 1 + sv_len 5) + 1)) + 1 + sv_len 6) + 1))), .int 0])), (sa, .inl (cI, 120, .inl tx))] H := hP
                  have hD : va_D A [(rd, .inr (3, [.ref sa, .int (nI n), .int (nI (rd_end tx n (((rd_end tx n ((pp + 1 + sv_len 5) + 1)) + 1 + sv_len 6) + 1))), .int (nI (rd_val tx n (((rd_end tx n ((pp + 1 + sv_len 5) + 1)) + 1 + sv_len 6) + 1))), .int st, .int mo, .int (nI (rd_val tx n ((pp + 1 + sv_len 5) + 1))), .int (nI (rd_val tx n (((rd_end tx n ((pp + 1 + sv_len 5) + 1)) + 1 + sv_len 6) + 1))), .int 0])), (sa, .inl (cI, 120, .inl tx))] := hD
                  refine lv_iconst (v := 1) hx hb d_Rd_takeClauses_107 (by decide) ?_
                  rw [hQ]
                  have z9 : rd_cl tx n pp nu mo jo vo re = (true, rd_end tx n (((rd_end tx n ((pp + 1 + sv_len 5) + 1)) + 1 + sv_len 6) + 1), (nI (rd_val tx n (((rd_end tx n ((pp + 1 + sv_len 5) + 1)) + 1 + sv_len 6) + 1))), mo, (nI (rd_val tx n ((pp + 1 + sv_len 5) + 1))), (nI (rd_val tx n (((rd_end tx n ((pp + 1 + sv_len 5) + 1)) + 1 + sv_len 6) + 1))), false) := by simp only [rd_cl, rd_c1, rd_c2, rd_c3, hb_3, hb_28, hb_35, hb_45, hb_64, hb_71, hb_81, hb_101, cond_true, cond_false]
                  have q9 : (1 : Int32) = bo_I ((rd_cl tx n pp nu mo jo vo re).1) := by rw [z9]; rfl
                  have e9 : ([(rd, .inr (3, [.ref sa, .int (nI n), .int (nI ((rd_cl tx n pp nu mo jo vo re).2.1)), .int ((rd_cl tx n pp nu mo jo vo re).2.2.1), .int st, .int ((rd_cl tx n pp nu mo jo vo re).2.2.2.1), .int ((rd_cl tx n pp nu mo jo vo re).2.2.2.2.1), .int ((rd_cl tx n pp nu mo jo vo re).2.2.2.2.2.1), .int (bo_I ((rd_cl tx n pp nu mo jo vo re).2.2.2.2.2.2))])), (sa, .inl (cI, 120, .inl tx))] : va_W) = [(rd, .inr (3, [.ref sa, .int (nI n), .int (nI (rd_end tx n (((rd_end tx n ((pp + 1 + sv_len 5) + 1)) + 1 + sv_len 6) + 1))), .int (nI (rd_val tx n (((rd_end tx n ((pp + 1 + sv_len 5) + 1)) + 1 + sv_len 6) + 1))), .int st, .int mo, .int (nI (rd_val tx n ((pp + 1 + sv_len 5) + 1))), .int (nI (rd_val tx n (((rd_end tx n ((pp + 1 + sv_len 5) + 1)) + 1 + sv_len 6) + 1))), .int 0])), (sa, .inl (cI, 120, .inl tx))] := by rw [z9] <;> rfl
                  exact W.zret (v := 1) hx hb hr rfl (fun t ht hW => ⟨⟨_, (), rfl, q9, by rw [ht, e9]; exact hP, va_K.moved hW.alike hK, by rw [e9]; exact hD⟩, hS.F ht⟩) hS.2.2 d_Rd_takeClauses_108
                · rw [hb_101] at hP hD
                  have hP : va_P (dC, dI) ga_cl [(rd, .inr (3, [.ref sa, .int (nI n), .int (nI ((rd_end tx n (((rd_end tx n ((pp + 1 + sv_len 5) + 1)) + 1 + sv_len 6) + 1)) + 1 + sv_len 7)), .int (nI (rd_val tx n (((rd_end tx n ((pp + 1 + sv_len 5) + 1)) + 1 + sv_len 6) + 1))), .int st, .int mo, .int (nI (rd_val tx n ((pp + 1 + sv_len 5) + 1))), .int (nI (rd_val tx n (((rd_end tx n ((pp + 1 + sv_len 5) + 1)) + 1 + sv_len 6) + 1))), .int (bo_I re)])), (sa, .inl (cI, 120, .inl tx))] H := hP
                  have hD : va_D A [(rd, .inr (3, [.ref sa, .int (nI n), .int (nI ((rd_end tx n (((rd_end tx n ((pp + 1 + sv_len 5) + 1)) + 1 + sv_len 6) + 1)) + 1 + sv_len 7)), .int (nI (rd_val tx n (((rd_end tx n ((pp + 1 + sv_len 5) + 1)) + 1 + sv_len 6) + 1))), .int st, .int mo, .int (nI (rd_val tx n ((pp + 1 + sv_len 5) + 1))), .int (nI (rd_val tx n (((rd_end tx n ((pp + 1 + sv_len 5) + 1)) + 1 + sv_len 6) + 1))), .int (bo_I re)])), (sa, .inl (cI, 120, .inl tx))] := hD
                  refine va_put (D := (dC, dI)) (ci := 3) (v := .int 1) (ty := .boolean) (C := "PatternText$PatternReader") (T := F_Rd) (N := 9) hx hb hts iw_Rd t_Rd t_Rd_ok n_Rd hown hK hP hD hS 0 rfl rfl 8 (by decide) (hts _ kw_73) (fun _ h9 => h9) rfl (by decide +kernel) rfl rfl (Nat.le_of_ble_eq_true rfl) d_Rd_takeClauses_104 (fun H locs hP hD hS => ?_)
                  have hP : va_P (dC, dI) ga_cl [(rd, .inr (3, [.ref sa, .int (nI n), .int (nI ((rd_end tx n (((rd_end tx n ((pp + 1 + sv_len 5) + 1)) + 1 + sv_len 6) + 1)) + 1 + sv_len 7)), .int (nI (rd_val tx n (((rd_end tx n ((pp + 1 + sv_len 5) + 1)) + 1 + sv_len 6) + 1))), .int st, .int mo, .int (nI (rd_val tx n ((pp + 1 + sv_len 5) + 1))), .int (nI (rd_val tx n (((rd_end tx n ((pp + 1 + sv_len 5) + 1)) + 1 + sv_len 6) + 1))), .int 1])), (sa, .inl (cI, 120, .inl tx))] H := hP
                  have hD : va_D A [(rd, .inr (3, [.ref sa, .int (nI n), .int (nI ((rd_end tx n (((rd_end tx n ((pp + 1 + sv_len 5) + 1)) + 1 + sv_len 6) + 1)) + 1 + sv_len 7)), .int (nI (rd_val tx n (((rd_end tx n ((pp + 1 + sv_len 5) + 1)) + 1 + sv_len 6) + 1))), .int st, .int mo, .int (nI (rd_val tx n ((pp + 1 + sv_len 5) + 1))), .int (nI (rd_val tx n (((rd_end tx n ((pp + 1 + sv_len 5) + 1)) + 1 + sv_len 6) + 1))), .int 1])), (sa, .inl (cI, 120, .inl tx))] := hD
                  refine lv_iconst (v := 1) hx hb d_Rd_takeClauses_107 (by decide) ?_
                  rw [hQ]
                  have z9 : rd_cl tx n pp nu mo jo vo re = (true, (rd_end tx n (((rd_end tx n ((pp + 1 + sv_len 5) + 1)) + 1 + sv_len 6) + 1)) + 1 + sv_len 7, (nI (rd_val tx n (((rd_end tx n ((pp + 1 + sv_len 5) + 1)) + 1 + sv_len 6) + 1))), mo, (nI (rd_val tx n ((pp + 1 + sv_len 5) + 1))), (nI (rd_val tx n (((rd_end tx n ((pp + 1 + sv_len 5) + 1)) + 1 + sv_len 6) + 1))), true) := by simp only [rd_cl, rd_c1, rd_c2, rd_c3, hb_3, hb_28, hb_35, hb_45, hb_64, hb_71, hb_81, hb_101, cond_true, cond_false]
                  have q9 : (1 : Int32) = bo_I ((rd_cl tx n pp nu mo jo vo re).1) := by rw [z9]; rfl
                  have e9 : ([(rd, .inr (3, [.ref sa, .int (nI n), .int (nI ((rd_cl tx n pp nu mo jo vo re).2.1)), .int ((rd_cl tx n pp nu mo jo vo re).2.2.1), .int st, .int ((rd_cl tx n pp nu mo jo vo re).2.2.2.1), .int ((rd_cl tx n pp nu mo jo vo re).2.2.2.2.1), .int ((rd_cl tx n pp nu mo jo vo re).2.2.2.2.2.1), .int (bo_I ((rd_cl tx n pp nu mo jo vo re).2.2.2.2.2.2))])), (sa, .inl (cI, 120, .inl tx))] : va_W) = [(rd, .inr (3, [.ref sa, .int (nI n), .int (nI ((rd_end tx n (((rd_end tx n ((pp + 1 + sv_len 5) + 1)) + 1 + sv_len 6) + 1)) + 1 + sv_len 7)), .int (nI (rd_val tx n (((rd_end tx n ((pp + 1 + sv_len 5) + 1)) + 1 + sv_len 6) + 1))), .int st, .int mo, .int (nI (rd_val tx n ((pp + 1 + sv_len 5) + 1))), .int (nI (rd_val tx n (((rd_end tx n ((pp + 1 + sv_len 5) + 1)) + 1 + sv_len 6) + 1))), .int 1])), (sa, .inl (cI, 120, .inl tx))] := by rw [z9] <;> rfl
                  exact W.zret (v := 1) hx hb hr rfl (fun t ht hW => ⟨⟨_, (), rfl, q9, by rw [ht, e9]; exact hP, va_K.moved hW.alike hK, by rw [e9]; exact hD⟩, hS.F ht⟩) hS.2.2 d_Rd_takeClauses_108
  · rw [hb_3] at hP hD
    have hP : va_P (dC, dI) ga_cl [(rd, .inr (3, [.ref sa, .int (nI n), .int (nI (pp + 1 + sv_len 4)), .int nu, .int st, .int mo, .int jo, .int vo, .int (bo_I re)])), (sa, .inl (cI, 120, .inl tx))] H := hP
    have hD : va_D A [(rd, .inr (3, [.ref sa, .int (nI n), .int (nI (pp + 1 + sv_len 4)), .int nu, .int st, .int mo, .int jo, .int vo, .int (bo_I re)])), (sa, .inl (cI, 120, .inl tx))] := hD
    have l_3 := rd_next_le hb_3
    refine lv_if_eq (tgt := 25) hx hb d_Rd_takeClauses_6 (by decide) (fun z9 => absurd z9 (by decide)) (fun _ => ?_)
    refine lv_aload_n hx hb d_Rd_takeClauses_9 rfl (lv_at hl 0 rfl) ?_
    refine wy_calli (wr := []) (w1 := [(rd, .inr (3, [.ref sa, .int (nI n), .int (nI (cond (rd_sp tx n (pp + 1 + sv_len 4)) ((pp + 1 + sv_len 4) + 1) (pp + 1 + sv_len 4))), .int nu, .int st, .int mo, .int jo, .int vo, .int (bo_I re)])), (sa, .inl (cI, 120, .inl tx))]) (va_runV (As := []) (rest := []) ⟨hx, hb, hml, hown, hts⟩ (c_Rd_takeSpace l dC dI H.size rd sa cI tx n (pp + 1 + sv_len 4) nu st mo jo vo re (by omega) (by omega)) (cwV 0 hts (ga_V kw_254 kw_256 kw_3 kw_35 (ga_in kw_257)) rfl rfl rfl (by decide +kernel) ⟨Nat.le_of_ble_eq_true rfl, Nat.le_of_ble_eq_true rfl⟩) (wy_mreV 0 (hP.sub (ws' := [(rd, .inr (3, [.ref sa, .int (nI n), .int (nI (pp + 1 + sv_len 4)), .int nu, .int st, .int mo, .int jo, .int vo, .int (bo_I re)])), (sa, .inl (cI, 120, .inl tx))]) [0, 1] rfl) (hK.sub (tys' := [(cI, .int)]) [0] rfl) hN (hD.sub (ws' := [(rd, .inr (3, [.ref sa, .int (nI n), .int (nI (pp + 1 + sv_len 4)), .int nu, .int st, .int mo, .int jo, .int vo, .int (bo_I re)])), (sa, .inl (cI, 120, .inl tx))]) [0, 1] (by decide) rfl) (ci := 3) rfl rfl rfl) rfl rfl hl.1 rfl (lv_room (Nat.le_of_ble_eq_true rfl)) d_Rd_takeClauses_10 ⟨Nat.le_of_ble_eq_true rfl, Nat.le_of_ble_eq_true rfl⟩) hP hD hS hA [0, 1] [] rfl rfl (by decide) (by decide) (fun H locs hP hD hS => ?_)
    have hP := hP.sub (ws' := [(rd, .inr (3, [.ref sa, .int (nI n), .int (nI (cond (rd_sp tx n (pp + 1 + sv_len 4)) ((pp + 1 + sv_len 4) + 1) (pp + 1 + sv_len 4))), .int nu, .int st, .int mo, .int jo, .int vo, .int (bo_I re)])), (sa, .inl (cI, 120, .inl tx))]) [0, 1] rfl
    have hD := hD.sub (ws' := [(rd, .inr (3, [.ref sa, .int (nI n), .int (nI (cond (rd_sp tx n (pp + 1 + sv_len 4)) ((pp + 1 + sv_len 4) + 1) (pp + 1 + sv_len 4))), .int nu, .int st, .int mo, .int jo, .int vo, .int (bo_I re)])), (sa, .inl (cI, 120, .inl tx))]) [0, 1] (by decide) rfl
    rcases hb_10 : rd_sp tx n (pp + 1 + sv_len 4) with _ | _
    · rw [hb_10] at hP hD
      have hP : va_P (dC, dI) ga_cl [(rd, .inr (3, [.ref sa, .int (nI n), .int (nI (pp + 1 + sv_len 4)), .int nu, .int st, .int mo, .int jo, .int vo, .int (bo_I re)])), (sa, .inl (cI, 120, .inl tx))] H := hP
      have hD : va_D A [(rd, .inr (3, [.ref sa, .int (nI n), .int (nI (pp + 1 + sv_len 4)), .int nu, .int st, .int mo, .int jo, .int vo, .int (bo_I re)])), (sa, .inl (cI, 120, .inl tx))] := hD
      refine lv_if_eq (tgt := 23) hx hb d_Rd_takeClauses_13 (by decide) (fun _ => ?_) (fun z9 => absurd z9 (by decide))
      refine lv_iconst (v := 0) hx hb d_Rd_takeClauses_23 (by decide) ?_
      rw [hQ]
      have z9 : rd_cl tx n pp nu mo jo vo re = (false, pp + 1 + sv_len 4, nu, mo, jo, vo, re) := by simp only [rd_cl, rd_c1, rd_c2, rd_c3, hb_3, hb_10, cond_true, cond_false]
      have q9 : (0 : Int32) = bo_I ((rd_cl tx n pp nu mo jo vo re).1) := by rw [z9]; rfl
      have e9 : ([(rd, .inr (3, [.ref sa, .int (nI n), .int (nI ((rd_cl tx n pp nu mo jo vo re).2.1)), .int ((rd_cl tx n pp nu mo jo vo re).2.2.1), .int st, .int ((rd_cl tx n pp nu mo jo vo re).2.2.2.1), .int ((rd_cl tx n pp nu mo jo vo re).2.2.2.2.1), .int ((rd_cl tx n pp nu mo jo vo re).2.2.2.2.2.1), .int (bo_I ((rd_cl tx n pp nu mo jo vo re).2.2.2.2.2.2))])), (sa, .inl (cI, 120, .inl tx))] : va_W) = [(rd, .inr (3, [.ref sa, .int (nI n), .int (nI (pp + 1 + sv_len 4)), .int nu, .int st, .int mo, .int jo, .int vo, .int (bo_I re)])), (sa, .inl (cI, 120, .inl tx))] := by rw [z9] <;> rfl
      exact W.zret (v := 0) hx hb hr rfl (fun t ht hW => ⟨⟨_, (), rfl, q9, by rw [ht, e9]; exact hP, va_K.moved hW.alike hK, by rw [e9]; exact hD⟩, hS.F ht⟩) hS.2.2 d_Rd_takeClauses_24
    · rw [hb_10] at hP hD
      have hP : va_P (dC, dI) ga_cl [(rd, .inr (3, [.ref sa, .int (nI n), .int (nI ((pp + 1 + sv_len 4) + 1)), .int nu, .int st, .int mo, .int jo, .int vo, .int (bo_I re)])), (sa, .inl (cI, 120, .inl tx))] H := hP
      have hD : va_D A [(rd, .inr (3, [.ref sa, .int (nI n), .int (nI ((pp + 1 + sv_len 4) + 1)), .int nu, .int st, .int mo, .int jo, .int vo, .int (bo_I re)])), (sa, .inl (cI, 120, .inl tx))] := hD
      have l_10 := rd_sp_lt hb_10
      refine lv_if_eq (tgt := 23) hx hb d_Rd_takeClauses_13 (by decide) (fun z9 => absurd z9 (by decide)) (fun _ => ?_)
      refine lv_aload_n hx hb d_Rd_takeClauses_16 rfl (lv_at hl 0 rfl) ?_
      refine wy_calli (wr := []) (w1 := [(rd, .inr (3, [.ref sa, .int (nI n), .int (nI ((rd_mon tx n 13 0 ((pp + 1 + sv_len 4) + 1) nu mo).2.1)), .int ((rd_mon tx n 13 0 ((pp + 1 + sv_len 4) + 1) nu mo).2.2.1), .int st, .int ((rd_mon tx n 13 0 ((pp + 1 + sv_len 4) + 1) nu mo).2.2.2), .int jo, .int vo, .int (bo_I re)])), (sa, .inl (cI, 120, .inl tx))]) (va_runV (As := []) (rest := []) ⟨hx, hb, hml, hown, hts⟩ (c_Rd_takeMonths l dC dI H.size rd sa cI tx n ((pp + 1 + sv_len 4) + 1) nu st mo jo vo re (by omega) (by omega)) (cwV 0 hts (ga_V kw_284 kw_286 kw_8 kw_35 (ga_in kw_287)) rfl rfl rfl (by decide +kernel) ⟨Nat.le_of_ble_eq_true rfl, Nat.le_of_ble_eq_true rfl⟩) (wy_mreV 0 (hP.sub (ws' := [(rd, .inr (3, [.ref sa, .int (nI n), .int (nI ((pp + 1 + sv_len 4) + 1)), .int nu, .int st, .int mo, .int jo, .int vo, .int (bo_I re)])), (sa, .inl (cI, 120, .inl tx))]) [0, 1] rfl) (hK.sub (tys' := [(cI, .int)]) [0] rfl) hN (hD.sub (ws' := [(rd, .inr (3, [.ref sa, .int (nI n), .int (nI ((pp + 1 + sv_len 4) + 1)), .int nu, .int st, .int mo, .int jo, .int vo, .int (bo_I re)])), (sa, .inl (cI, 120, .inl tx))]) [0, 1] (by decide) rfl) (ci := 3) rfl rfl rfl) rfl rfl hl.1 rfl (lv_room (Nat.le_of_ble_eq_true rfl)) d_Rd_takeClauses_17 ⟨Nat.le_of_ble_eq_true rfl, Nat.le_of_ble_eq_true rfl⟩) hP hD hS hA [0, 1] [] rfl rfl (by decide) (by decide) (fun H locs hP hD hS => ?_)
      have hP := hP.sub (ws' := [(rd, .inr (3, [.ref sa, .int (nI n), .int (nI ((rd_mon tx n 13 0 ((pp + 1 + sv_len 4) + 1) nu mo).2.1)), .int ((rd_mon tx n 13 0 ((pp + 1 + sv_len 4) + 1) nu mo).2.2.1), .int st, .int ((rd_mon tx n 13 0 ((pp + 1 + sv_len 4) + 1) nu mo).2.2.2), .int jo, .int vo, .int (bo_I re)])), (sa, .inl (cI, 120, .inl tx))]) [0, 1] rfl
      have hD := hD.sub (ws' := [(rd, .inr (3, [.ref sa, .int (nI n), .int (nI ((rd_mon tx n 13 0 ((pp + 1 + sv_len 4) + 1) nu mo).2.1)), .int ((rd_mon tx n 13 0 ((pp + 1 + sv_len 4) + 1) nu mo).2.2.1), .int st, .int ((rd_mon tx n 13 0 ((pp + 1 + sv_len 4) + 1) nu mo).2.2.2), .int jo, .int vo, .int (bo_I re)])), (sa, .inl (cI, 120, .inl tx))]) [0, 1] (by decide) rfl
      rcases hb_17 : (rd_mon tx n 13 0 ((pp + 1 + sv_len 4) + 1) nu mo).1 with _ | _
      · have hP : va_P (dC, dI) ga_cl [(rd, .inr (3, [.ref sa, .int (nI n), .int (nI ((rd_mon tx n 13 0 ((pp + 1 + sv_len 4) + 1) nu mo).2.1)), .int ((rd_mon tx n 13 0 ((pp + 1 + sv_len 4) + 1) nu mo).2.2.1), .int st, .int ((rd_mon tx n 13 0 ((pp + 1 + sv_len 4) + 1) nu mo).2.2.2), .int jo, .int vo, .int (bo_I re)])), (sa, .inl (cI, 120, .inl tx))] H := hP
        have hD : va_D A [(rd, .inr (3, [.ref sa, .int (nI n), .int (nI ((rd_mon tx n 13 0 ((pp + 1 + sv_len 4) + 1) nu mo).2.1)), .int ((rd_mon tx n 13 0 ((pp + 1 + sv_len 4) + 1) nu mo).2.2.1), .int st, .int ((rd_mon tx n 13 0 ((pp + 1 + sv_len 4) + 1) nu mo).2.2.2), .int jo, .int vo, .int (bo_I re)])), (sa, .inl (cI, 120, .inl tx))] := hD
        refine lv_if_ne (tgt := 25) hx hb d_Rd_takeClauses_20 (by decide) (fun z9 => absurd z9 (by decide)) (fun _ => ?_)
        refine lv_iconst (v := 0) hx hb d_Rd_takeClauses_23 (by decide) ?_
        rw [hQ]
        have z9 : rd_cl tx n pp nu mo jo vo re = (false, (rd_mon tx n 13 0 ((pp + 1 + sv_len 4) + 1) nu mo).2.1, (rd_mon tx n 13 0 ((pp + 1 + sv_len 4) + 1) nu mo).2.2.1, (rd_mon tx n 13 0 ((pp + 1 + sv_len 4) + 1) nu mo).2.2.2, jo, vo, re) := by simp only [rd_cl, rd_c1, rd_c2, rd_c3, hb_3, hb_10, hb_17, cond_true, cond_false]
        have q9 : (0 : Int32) = bo_I ((rd_cl tx n pp nu mo jo vo re).1) := by rw [z9]; rfl
        have e9 : ([(rd, .inr (3, [.ref sa, .int (nI n), .int (nI ((rd_cl tx n pp nu mo jo vo re).2.1)), .int ((rd_cl tx n pp nu mo jo vo re).2.2.1), .int st, .int ((rd_cl tx n pp nu mo jo vo re).2.2.2.1), .int ((rd_cl tx n pp nu mo jo vo re).2.2.2.2.1), .int ((rd_cl tx n pp nu mo jo vo re).2.2.2.2.2.1), .int (bo_I ((rd_cl tx n pp nu mo jo vo re).2.2.2.2.2.2))])), (sa, .inl (cI, 120, .inl tx))] : va_W) = [(rd, .inr (3, [.ref sa, .int (nI n), .int (nI ((rd_mon tx n 13 0 ((pp + 1 + sv_len 4) + 1) nu mo).2.1)), .int ((rd_mon tx n 13 0 ((pp + 1 + sv_len 4) + 1) nu mo).2.2.1), .int st, .int ((rd_mon tx n 13 0 ((pp + 1 + sv_len 4) + 1) nu mo).2.2.2), .int jo, .int vo, .int (bo_I re)])), (sa, .inl (cI, 120, .inl tx))] := by rw [z9] <;> rfl
        exact W.zret (v := 0) hx hb hr rfl (fun t ht hW => ⟨⟨_, (), rfl, q9, by rw [ht, e9]; exact hP, va_K.moved hW.alike hK, by rw [e9]; exact hD⟩, hS.F ht⟩) hS.2.2 d_Rd_takeClauses_24
      · have hP : va_P (dC, dI) ga_cl [(rd, .inr (3, [.ref sa, .int (nI n), .int (nI ((rd_mon tx n 13 0 ((pp + 1 + sv_len 4) + 1) nu mo).2.1)), .int ((rd_mon tx n 13 0 ((pp + 1 + sv_len 4) + 1) nu mo).2.2.1), .int st, .int ((rd_mon tx n 13 0 ((pp + 1 + sv_len 4) + 1) nu mo).2.2.2), .int jo, .int vo, .int (bo_I re)])), (sa, .inl (cI, 120, .inl tx))] H := hP
        have hD : va_D A [(rd, .inr (3, [.ref sa, .int (nI n), .int (nI ((rd_mon tx n 13 0 ((pp + 1 + sv_len 4) + 1) nu mo).2.1)), .int ((rd_mon tx n 13 0 ((pp + 1 + sv_len 4) + 1) nu mo).2.2.1), .int st, .int ((rd_mon tx n 13 0 ((pp + 1 + sv_len 4) + 1) nu mo).2.2.2), .int jo, .int vo, .int (bo_I re)])), (sa, .inl (cI, 120, .inl tx))] := hD
        have l_17 := rd_mon_le tx n 13 0 _ nu mo l_10
        refine lv_if_ne (tgt := 25) hx hb d_Rd_takeClauses_20 (by decide) (fun _ => ?_) (fun z9 => absurd z9 (by decide))
        refine lv_aload_n hx hb d_Rd_takeClauses_25 rfl (lv_at hl 0 rfl) ?_
        refine va_ldcS hx hb hown (hE.2.2 5 (by decide)).2 d_Rd_takeClauses_26 ?_
        have hF_28 := va_free (wc := [(rd, .inr (3, [.ref sa, .int (nI n), .int (nI ((rd_mon tx n 13 0 ((pp + 1 + sv_len 4) + 1) nu mo).2.1)), .int ((rd_mon tx n 13 0 ((pp + 1 + sv_len 4) + 1) nu mo).2.2.1), .int st, .int ((rd_mon tx n 13 0 ((pp + 1 + sv_len 4) + 1) nu mo).2.2.2), .int jo, .int vo, .int (bo_I re)])), (sa, .inl (cI, 120, .inl tx))]) hD hS hA [0, 1] rfl
        refine wy_calli (wr := []) (w1 := [(rd, .inr (3, [.ref sa, .int (nI n), .int (nI (cond (rd_next tx n ((rd_mon tx n 13 0 ((pp + 1 + sv_len 4) + 1) nu mo).2.1) (sv_w 5) (sv_len 5)) (((rd_mon tx n 13 0 ((pp + 1 + sv_len 4) + 1) nu mo).2.1) + 1 + sv_len 5) ((rd_mon tx n 13 0 ((pp + 1 + sv_len 4) + 1) nu mo).2.1))), .int ((rd_mon tx n 13 0 ((pp + 1 + sv_len 4) + 1) nu mo).2.2.1), .int st, .int ((rd_mon tx n 13 0 ((pp + 1 + sv_len 4) + 1) nu mo).2.2.2), .int jo, .int vo, .int (bo_I re)])), (sa, .inl (cI, 120, .inl tx))]) (va_runV (As := [.ref (ad 5)]) (rest := []) ⟨hx, hb, hml, hown, hts⟩ (c_Rd_takeNextWord l dC dI H.size ad av rd sa cI tx n ((rd_mon tx n 13 0 ((pp + 1 + sv_len 4) + 1) nu mo).2.1) ((rd_mon tx n 13 0 ((pp + 1 + sv_len 4) + 1) nu mo).2.2.1) st ((rd_mon tx n 13 0 ((pp + 1 + sv_len 4) + 1) nu mo).2.2.2) jo vo re 5 (by omega) (by omega) (by decide)) (cwV 1 hts (ga_V kw_280 kw_282 kw_7 kw_35 (ga_in kw_283)) rfl rfl rfl (by decide +kernel) ⟨Nat.le_of_ble_eq_true rfl, Nat.le_of_ble_eq_true rfl⟩) (wy_mreVE 0 (hP.sub (ws' := [(rd, .inr (3, [.ref sa, .int (nI n), .int (nI ((rd_mon tx n 13 0 ((pp + 1 + sv_len 4) + 1) nu mo).2.1)), .int ((rd_mon tx n 13 0 ((pp + 1 + sv_len 4) + 1) nu mo).2.2.1), .int st, .int ((rd_mon tx n 13 0 ((pp + 1 + sv_len 4) + 1) nu mo).2.2.2), .int jo, .int vo, .int (bo_I re)])), (sa, .inl (cI, 120, .inl tx))]) [0, 1] rfl) (hK.sub (tys' := [(cI, .int)]) [0] rfl) hN (hD.sub (ws' := [(rd, .inr (3, [.ref sa, .int (nI n), .int (nI ((rd_mon tx n 13 0 ((pp + 1 + sv_len 4) + 1) nu mo).2.1)), .int ((rd_mon tx n 13 0 ((pp + 1 + sv_len 4) + 1) nu mo).2.2.1), .int st, .int ((rd_mon tx n 13 0 ((pp + 1 + sv_len 4) + 1) nu mo).2.2.2), .int jo, .int vo, .int (bo_I re)])), (sa, .inl (cI, 120, .inl tx))]) [0, 1] (by decide) rfl) hE hS hF_28 (ci := 3) rfl rfl rfl) rfl rfl hl.1 rfl (lv_room (Nat.le_of_ble_eq_true rfl)) d_Rd_takeClauses_28 ⟨Nat.le_of_ble_eq_true rfl, Nat.le_of_ble_eq_true rfl⟩) hP hD hS hA [0, 1] [] rfl rfl (by decide) (by decide) (fun H locs hP hD hS => ?_)
        have hP := hP.sub (ws' := [(rd, .inr (3, [.ref sa, .int (nI n), .int (nI (cond (rd_next tx n ((rd_mon tx n 13 0 ((pp + 1 + sv_len 4) + 1) nu mo).2.1) (sv_w 5) (sv_len 5)) (((rd_mon tx n 13 0 ((pp + 1 + sv_len 4) + 1) nu mo).2.1) + 1 + sv_len 5) ((rd_mon tx n 13 0 ((pp + 1 + sv_len 4) + 1) nu mo).2.1))), .int ((rd_mon tx n 13 0 ((pp + 1 + sv_len 4) + 1) nu mo).2.2.1), .int st, .int ((rd_mon tx n 13 0 ((pp + 1 + sv_len 4) + 1) nu mo).2.2.2), .int jo, .int vo, .int (bo_I re)])), (sa, .inl (cI, 120, .inl tx))]) [0, 1] rfl
        have hD := hD.sub (ws' := [(rd, .inr (3, [.ref sa, .int (nI n), .int (nI (cond (rd_next tx n ((rd_mon tx n 13 0 ((pp + 1 + sv_len 4) + 1) nu mo).2.1) (sv_w 5) (sv_len 5)) (((rd_mon tx n 13 0 ((pp + 1 + sv_len 4) + 1) nu mo).2.1) + 1 + sv_len 5) ((rd_mon tx n 13 0 ((pp + 1 + sv_len 4) + 1) nu mo).2.1))), .int ((rd_mon tx n 13 0 ((pp + 1 + sv_len 4) + 1) nu mo).2.2.1), .int st, .int ((rd_mon tx n 13 0 ((pp + 1 + sv_len 4) + 1) nu mo).2.2.2), .int jo, .int vo, .int (bo_I re)])), (sa, .inl (cI, 120, .inl tx))]) [0, 1] (by decide) rfl
        rcases hb_28 : rd_next tx n ((rd_mon tx n 13 0 ((pp + 1 + sv_len 4) + 1) nu mo).2.1) (sv_w 5) (sv_len 5) with _ | _
        · rw [hb_28] at hP hD
          have hP : va_P (dC, dI) ga_cl [(rd, .inr (3, [.ref sa, .int (nI n), .int (nI ((rd_mon tx n 13 0 ((pp + 1 + sv_len 4) + 1) nu mo).2.1)), .int ((rd_mon tx n 13 0 ((pp + 1 + sv_len 4) + 1) nu mo).2.2.1), .int st, .int ((rd_mon tx n 13 0 ((pp + 1 + sv_len 4) + 1) nu mo).2.2.2), .int jo, .int vo, .int (bo_I re)])), (sa, .inl (cI, 120, .inl tx))] H := hP
          have hD : va_D A [(rd, .inr (3, [.ref sa, .int (nI n), .int (nI ((rd_mon tx n 13 0 ((pp + 1 + sv_len 4) + 1) nu mo).2.1)), .int ((rd_mon tx n 13 0 ((pp + 1 + sv_len 4) + 1) nu mo).2.2.1), .int st, .int ((rd_mon tx n 13 0 ((pp + 1 + sv_len 4) + 1) nu mo).2.2.2), .int jo, .int vo, .int (bo_I re)])), (sa, .inl (cI, 120, .inl tx))] := hD
          refine lv_if_eq (tgt := 61) hx hb d_Rd_takeClauses_31 (by decide) (fun _ => ?_) (fun z9 => absurd z9 (by decide))
          refine lv_aload_n hx hb d_Rd_takeClauses_61 rfl (lv_at hl 0 rfl) ?_
          refine va_ldcS hx hb hown (hE.2.2 6 (by decide)).2 d_Rd_takeClauses_62 ?_
          have hF_64 := va_free (wc := [(rd, .inr (3, [.ref sa, .int (nI n), .int (nI ((rd_mon tx n 13 0 ((pp + 1 + sv_len 4) + 1) nu mo).2.1)), .int ((rd_mon tx n 13 0 ((pp + 1 + sv_len 4) + 1) nu mo).2.2.1), .int st, .int ((rd_mon tx n 13 0 ((pp + 1 + sv_len 4) + 1) nu mo).2.2.2), .int jo, .int vo, .int (bo_I re)])), (sa, .inl (cI, 120, .inl tx))]) hD hS hA [0, 1] rfl
          refine wy_calli (wr := []) (w1 := [(rd, .inr (3, [.ref sa, .int (nI n), .int (nI (cond (rd_next tx n ((rd_mon tx n 13 0 ((pp + 1 + sv_len 4) + 1) nu mo).2.1) (sv_w 6) (sv_len 6)) (((rd_mon tx n 13 0 ((pp + 1 + sv_len 4) + 1) nu mo).2.1) + 1 + sv_len 6) ((rd_mon tx n 13 0 ((pp + 1 + sv_len 4) + 1) nu mo).2.1))), .int ((rd_mon tx n 13 0 ((pp + 1 + sv_len 4) + 1) nu mo).2.2.1), .int st, .int ((rd_mon tx n 13 0 ((pp + 1 + sv_len 4) + 1) nu mo).2.2.2), .int jo, .int vo, .int (bo_I re)])), (sa, .inl (cI, 120, .inl tx))]) (va_runV (As := [.ref (ad 6)]) (rest := []) ⟨hx, hb, hml, hown, hts⟩ (c_Rd_takeNextWord l dC dI H.size ad av rd sa cI tx n ((rd_mon tx n 13 0 ((pp + 1 + sv_len 4) + 1) nu mo).2.1) ((rd_mon tx n 13 0 ((pp + 1 + sv_len 4) + 1) nu mo).2.2.1) st ((rd_mon tx n 13 0 ((pp + 1 + sv_len 4) + 1) nu mo).2.2.2) jo vo re 6 (by omega) (by omega) (by decide)) (cwV 1 hts (ga_V kw_280 kw_282 kw_7 kw_35 (ga_in kw_283)) rfl rfl rfl (by decide +kernel) ⟨Nat.le_of_ble_eq_true rfl, Nat.le_of_ble_eq_true rfl⟩) (wy_mreVE 0 (hP.sub (ws' := [(rd, .inr (3, [.ref sa, .int (nI n), .int (nI ((rd_mon tx n 13 0 ((pp + 1 + sv_len 4) + 1) nu mo).2.1)), .int ((rd_mon tx n 13 0 ((pp + 1 + sv_len 4) + 1) nu mo).2.2.1), .int st, .int ((rd_mon tx n 13 0 ((pp + 1 + sv_len 4) + 1) nu mo).2.2.2), .int jo, .int vo, .int (bo_I re)])), (sa, .inl (cI, 120, .inl tx))]) [0, 1] rfl) (hK.sub (tys' := [(cI, .int)]) [0] rfl) hN (hD.sub (ws' := [(rd, .inr (3, [.ref sa, .int (nI n), .int (nI ((rd_mon tx n 13 0 ((pp + 1 + sv_len 4) + 1) nu mo).2.1)), .int ((rd_mon tx n 13 0 ((pp + 1 + sv_len 4) + 1) nu mo).2.2.1), .int st, .int ((rd_mon tx n 13 0 ((pp + 1 + sv_len 4) + 1) nu mo).2.2.2), .int jo, .int vo, .int (bo_I re)])), (sa, .inl (cI, 120, .inl tx))]) [0, 1] (by decide) rfl) hE hS hF_64 (ci := 3) rfl rfl rfl) rfl rfl hl.1 rfl (lv_room (Nat.le_of_ble_eq_true rfl)) d_Rd_takeClauses_64 ⟨Nat.le_of_ble_eq_true rfl, Nat.le_of_ble_eq_true rfl⟩) hP hD hS hA [0, 1] [] rfl rfl (by decide) (by decide) (fun H locs hP hD hS => ?_)
          have hP := hP.sub (ws' := [(rd, .inr (3, [.ref sa, .int (nI n), .int (nI (cond (rd_next tx n ((rd_mon tx n 13 0 ((pp + 1 + sv_len 4) + 1) nu mo).2.1) (sv_w 6) (sv_len 6)) (((rd_mon tx n 13 0 ((pp + 1 + sv_len 4) + 1) nu mo).2.1) + 1 + sv_len 6) ((rd_mon tx n 13 0 ((pp + 1 + sv_len 4) + 1) nu mo).2.1))), .int ((rd_mon tx n 13 0 ((pp + 1 + sv_len 4) + 1) nu mo).2.2.1), .int st, .int ((rd_mon tx n 13 0 ((pp + 1 + sv_len 4) + 1) nu mo).2.2.2), .int jo, .int vo, .int (bo_I re)])), (sa, .inl (cI, 120, .inl tx))]) [0, 1] rfl
          have hD := hD.sub (ws' := [(rd, .inr (3, [.ref sa, .int (nI n), .int (nI (cond (rd_next tx n ((rd_mon tx n 13 0 ((pp + 1 + sv_len 4) + 1) nu mo).2.1) (sv_w 6) (sv_len 6)) (((rd_mon tx n 13 0 ((pp + 1 + sv_len 4) + 1) nu mo).2.1) + 1 + sv_len 6) ((rd_mon tx n 13 0 ((pp + 1 + sv_len 4) + 1) nu mo).2.1))), .int ((rd_mon tx n 13 0 ((pp + 1 + sv_len 4) + 1) nu mo).2.2.1), .int st, .int ((rd_mon tx n 13 0 ((pp + 1 + sv_len 4) + 1) nu mo).2.2.2), .int jo, .int vo, .int (bo_I re)])), (sa, .inl (cI, 120, .inl tx))]) [0, 1] (by decide) rfl
          rcases hb_64 : rd_next tx n ((rd_mon tx n 13 0 ((pp + 1 + sv_len 4) + 1) nu mo).2.1) (sv_w 6) (sv_len 6) with _ | _
          · rw [hb_64] at hP hD
            have hP : va_P (dC, dI) ga_cl [(rd, .inr (3, [.ref sa, .int (nI n), .int (nI ((rd_mon tx n 13 0 ((pp + 1 + sv_len 4) + 1) nu mo).2.1)), .int ((rd_mon tx n 13 0 ((pp + 1 + sv_len 4) + 1) nu mo).2.2.1), .int st, .int ((rd_mon tx n 13 0 ((pp + 1 + sv_len 4) + 1) nu mo).2.2.2), .int jo, .int vo, .int (bo_I re)])), (sa, .inl (cI, 120, .inl tx))] H := hP
            have hD : va_D A [(rd, .inr (3, [.ref sa, .int (nI n), .int (nI ((rd_mon tx n 13 0 ((pp + 1 + sv_len 4) + 1) nu mo).2.1)), .int ((rd_mon tx n 13 0 ((pp + 1 + sv_len 4) + 1) nu mo).2.2.1), .int st, .int ((rd_mon tx n 13 0 ((pp + 1 + sv_len 4) + 1) nu mo).2.2.2), .int jo, .int vo, .int (bo_I re)])), (sa, .inl (cI, 120, .inl tx))] := hD
            refine lv_if_eq (tgt := 107) hx hb d_Rd_takeClauses_67 (by decide) (fun _ => ?_) (fun z9 => absurd z9 (by decide))
            refine lv_iconst (v := 1) hx hb d_Rd_takeClauses_107 (by decide) ?_
            rw [hQ]
            have z9 : rd_cl tx n pp nu mo jo vo re = (true, (rd_mon tx n 13 0 ((pp + 1 + sv_len 4) + 1) nu mo).2.1, ((rd_mon tx n 13 0 ((pp + 1 + sv_len 4) + 1) nu mo).2.2.1), ((rd_mon tx n 13 0 ((pp + 1 + sv_len 4) + 1) nu mo).2.2.2), jo, vo, re) := by simp only [rd_cl, rd_c1, rd_c2, rd_c3, hb_3, hb_10, hb_17, hb_28, hb_64, cond_true, cond_false]
            have q9 : (1 : Int32) = bo_I ((rd_cl tx n pp nu mo jo vo re).1) := by rw [z9]; rfl
            have e9 : ([(rd, .inr (3, [.ref sa, .int (nI n), .int (nI ((rd_cl tx n pp nu mo jo vo re).2.1)), .int ((rd_cl tx n pp nu mo jo vo re).2.2.1), .int st, .int ((rd_cl tx n pp nu mo jo vo re).2.2.2.1), .int ((rd_cl tx n pp nu mo jo vo re).2.2.2.2.1), .int ((rd_cl tx n pp nu mo jo vo re).2.2.2.2.2.1), .int (bo_I ((rd_cl tx n pp nu mo jo vo re).2.2.2.2.2.2))])), (sa, .inl (cI, 120, .inl tx))] : va_W) = [(rd, .inr (3, [.ref sa, .int (nI n), .int (nI ((rd_mon tx n 13 0 ((pp + 1 + sv_len 4) + 1) nu mo).2.1)), .int ((rd_mon tx n 13 0 ((pp + 1 + sv_len 4) + 1) nu mo).2.2.1), .int st, .int ((rd_mon tx n 13 0 ((pp + 1 + sv_len 4) + 1) nu mo).2.2.2), .int jo, .int vo, .int (bo_I re)])), (sa, .inl (cI, 120, .inl tx))] := by rw [z9] <;> rfl
            exact W.zret (v := 1) hx hb hr rfl (fun t ht hW => ⟨⟨_, (), rfl, q9, by rw [ht, e9]; exact hP, va_K.moved hW.alike hK, by rw [e9]; exact hD⟩, hS.F ht⟩) hS.2.2 d_Rd_takeClauses_108
          · rw [hb_64] at hP hD
            have hP : va_P (dC, dI) ga_cl [(rd, .inr (3, [.ref sa, .int (nI n), .int (nI (((rd_mon tx n 13 0 ((pp + 1 + sv_len 4) + 1) nu mo).2.1) + 1 + sv_len 6)), .int ((rd_mon tx n 13 0 ((pp + 1 + sv_len 4) + 1) nu mo).2.2.1), .int st, .int ((rd_mon tx n 13 0 ((pp + 1 + sv_len 4) + 1) nu mo).2.2.2), .int jo, .int vo, .int (bo_I re)])), (sa, .inl (cI, 120, .inl tx))] H := hP
            have hD : va_D A [(rd, .inr (3, [.ref sa, .int (nI n), .int (nI (((rd_mon tx n 13 0 ((pp + 1 + sv_len 4) + 1) nu mo).2.1) + 1 + sv_len 6)), .int ((rd_mon tx n 13 0 ((pp + 1 + sv_len 4) + 1) nu mo).2.2.1), .int st, .int ((rd_mon tx n 13 0 ((pp + 1 + sv_len 4) + 1) nu mo).2.2.2), .int jo, .int vo, .int (bo_I re)])), (sa, .inl (cI, 120, .inl tx))] := hD
            have l_64 := rd_next_le hb_64
            refine lv_if_eq (tgt := 107) hx hb d_Rd_takeClauses_67 (by decide) (fun z9 => absurd z9 (by decide)) (fun _ => ?_)
            refine lv_aload_n hx hb d_Rd_takeClauses_70 rfl (lv_at hl 0 rfl) ?_
            refine wy_calli (wr := []) (w1 := [(rd, .inr (3, [.ref sa, .int (nI n), .int (nI (cond (rd_sp tx n (((rd_mon tx n 13 0 ((pp + 1 + sv_len 4) + 1) nu mo).2.1) + 1 + sv_len 6)) ((((rd_mon tx n 13 0 ((pp + 1 + sv_len 4) + 1) nu mo).2.1) + 1 + sv_len 6) + 1) (((rd_mon tx n 13 0 ((pp + 1 + sv_len 4) + 1) nu mo).2.1) + 1 + sv_len 6))), .int ((rd_mon tx n 13 0 ((pp + 1 + sv_len 4) + 1) nu mo).2.2.1), .int st, .int ((rd_mon tx n 13 0 ((pp + 1 + sv_len 4) + 1) nu mo).2.2.2), .int jo, .int vo, .int (bo_I re)])), (sa, .inl (cI, 120, .inl tx))]) (va_runV (As := []) (rest := []) ⟨hx, hb, hml, hown, hts⟩ (c_Rd_takeSpace l dC dI H.size rd sa cI tx n (((rd_mon tx n 13 0 ((pp + 1 + sv_len 4) + 1) nu mo).2.1) + 1 + sv_len 6) ((rd_mon tx n 13 0 ((pp + 1 + sv_len 4) + 1) nu mo).2.2.1) st ((rd_mon tx n 13 0 ((pp + 1 + sv_len 4) + 1) nu mo).2.2.2) jo vo re (by omega) (by omega)) (cwV 0 hts (ga_V kw_254 kw_256 kw_3 kw_35 (ga_in kw_257)) rfl rfl rfl (by decide +kernel) ⟨Nat.le_of_ble_eq_true rfl, Nat.le_of_ble_eq_true rfl⟩) (wy_mreV 0 (hP.sub (ws' := [(rd, .inr (3, [.ref sa, .int (nI n), .int (nI (((rd_mon tx n 13 0 ((pp + 1 + sv_len 4) + 1) nu mo).2.1) + 1 + sv_len 6)), .int ((rd_mon tx n 13 0 ((pp + 1 + sv_len 4) + 1) nu mo).2.2.1), .int st, .int ((rd_mon tx n 13 0 ((pp + 1 + sv_len 4) + 1) nu mo).2.2.2), .int jo, .int vo, .int (bo_I re)])), (sa, .inl (cI, 120, .inl tx))]) [0, 1] rfl) (hK.sub (tys' := [(cI, .int)]) [0] rfl) hN (hD.sub (ws' := [(rd, .inr (3, [.ref sa, .int (nI n), .int (nI (((rd_mon tx n 13 0 ((pp + 1 + sv_len 4) + 1) nu mo).2.1) + 1 + sv_len 6)), .int ((rd_mon tx n 13 0 ((pp + 1 + sv_len 4) + 1) nu mo).2.2.1), .int st, .int ((rd_mon tx n 13 0 ((pp + 1 + sv_len 4) + 1) nu mo).2.2.2), .int jo, .int vo, .int (bo_I re)])), (sa, .inl (cI, 120, .inl tx))]) [0, 1] (by decide) rfl) (ci := 3) rfl rfl rfl) rfl rfl hl.1 rfl (lv_room (Nat.le_of_ble_eq_true rfl)) d_Rd_takeClauses_71 ⟨Nat.le_of_ble_eq_true rfl, Nat.le_of_ble_eq_true rfl⟩) hP hD hS hA [0, 1] [] rfl rfl (by decide) (by decide) (fun H locs hP hD hS => ?_)
            have hP := hP.sub (ws' := [(rd, .inr (3, [.ref sa, .int (nI n), .int (nI (cond (rd_sp tx n (((rd_mon tx n 13 0 ((pp + 1 + sv_len 4) + 1) nu mo).2.1) + 1 + sv_len 6)) ((((rd_mon tx n 13 0 ((pp + 1 + sv_len 4) + 1) nu mo).2.1) + 1 + sv_len 6) + 1) (((rd_mon tx n 13 0 ((pp + 1 + sv_len 4) + 1) nu mo).2.1) + 1 + sv_len 6))), .int ((rd_mon tx n 13 0 ((pp + 1 + sv_len 4) + 1) nu mo).2.2.1), .int st, .int ((rd_mon tx n 13 0 ((pp + 1 + sv_len 4) + 1) nu mo).2.2.2), .int jo, .int vo, .int (bo_I re)])), (sa, .inl (cI, 120, .inl tx))]) [0, 1] rfl
            have hD := hD.sub (ws' := [(rd, .inr (3, [.ref sa, .int (nI n), .int (nI (cond (rd_sp tx n (((rd_mon tx n 13 0 ((pp + 1 + sv_len 4) + 1) nu mo).2.1) + 1 + sv_len 6)) ((((rd_mon tx n 13 0 ((pp + 1 + sv_len 4) + 1) nu mo).2.1) + 1 + sv_len 6) + 1) (((rd_mon tx n 13 0 ((pp + 1 + sv_len 4) + 1) nu mo).2.1) + 1 + sv_len 6))), .int ((rd_mon tx n 13 0 ((pp + 1 + sv_len 4) + 1) nu mo).2.2.1), .int st, .int ((rd_mon tx n 13 0 ((pp + 1 + sv_len 4) + 1) nu mo).2.2.2), .int jo, .int vo, .int (bo_I re)])), (sa, .inl (cI, 120, .inl tx))]) [0, 1] (by decide) rfl
            rcases hb_71 : rd_sp tx n (((rd_mon tx n 13 0 ((pp + 1 + sv_len 4) + 1) nu mo).2.1) + 1 + sv_len 6) with _ | _
            · rw [hb_71] at hP hD
              have hP : va_P (dC, dI) ga_cl [(rd, .inr (3, [.ref sa, .int (nI n), .int (nI (((rd_mon tx n 13 0 ((pp + 1 + sv_len 4) + 1) nu mo).2.1) + 1 + sv_len 6)), .int ((rd_mon tx n 13 0 ((pp + 1 + sv_len 4) + 1) nu mo).2.2.1), .int st, .int ((rd_mon tx n 13 0 ((pp + 1 + sv_len 4) + 1) nu mo).2.2.2), .int jo, .int vo, .int (bo_I re)])), (sa, .inl (cI, 120, .inl tx))] H := hP
              have hD : va_D A [(rd, .inr (3, [.ref sa, .int (nI n), .int (nI (((rd_mon tx n 13 0 ((pp + 1 + sv_len 4) + 1) nu mo).2.1) + 1 + sv_len 6)), .int ((rd_mon tx n 13 0 ((pp + 1 + sv_len 4) + 1) nu mo).2.2.1), .int st, .int ((rd_mon tx n 13 0 ((pp + 1 + sv_len 4) + 1) nu mo).2.2.2), .int jo, .int vo, .int (bo_I re)])), (sa, .inl (cI, 120, .inl tx))] := hD
              refine lv_if_eq (tgt := 87) hx hb d_Rd_takeClauses_74 (by decide) (fun _ => ?_) (fun z9 => absurd z9 (by decide))
              refine lv_iconst (v := 0) hx hb d_Rd_takeClauses_87 (by decide) ?_
              rw [hQ]
              have z9 : rd_cl tx n pp nu mo jo vo re = (false, ((rd_mon tx n 13 0 ((pp + 1 + sv_len 4) + 1) nu mo).2.1) + 1 + sv_len 6, ((rd_mon tx n 13 0 ((pp + 1 + sv_len 4) + 1) nu mo).2.2.1), ((rd_mon tx n 13 0 ((pp + 1 + sv_len 4) + 1) nu mo).2.2.2), jo, vo, re) := by simp only [rd_cl, rd_c1, rd_c2, rd_c3, hb_3, hb_10, hb_17, hb_28, hb_64, hb_71, cond_true, cond_false]
              have q9 : (0 : Int32) = bo_I ((rd_cl tx n pp nu mo jo vo re).1) := by rw [z9]; rfl
              have e9 : ([(rd, .inr (3, [.ref sa, .int (nI n), .int (nI ((rd_cl tx n pp nu mo jo vo re).2.1)), .int ((rd_cl tx n pp nu mo jo vo re).2.2.1), .int st, .int ((rd_cl tx n pp nu mo jo vo re).2.2.2.1), .int ((rd_cl tx n pp nu mo jo vo re).2.2.2.2.1), .int ((rd_cl tx n pp nu mo jo vo re).2.2.2.2.2.1), .int (bo_I ((rd_cl tx n pp nu mo jo vo re).2.2.2.2.2.2))])), (sa, .inl (cI, 120, .inl tx))] : va_W) = [(rd, .inr (3, [.ref sa, .int (nI n), .int (nI (((rd_mon tx n 13 0 ((pp + 1 + sv_len 4) + 1) nu mo).2.1) + 1 + sv_len 6)), .int ((rd_mon tx n 13 0 ((pp + 1 + sv_len 4) + 1) nu mo).2.2.1), .int st, .int ((rd_mon tx n 13 0 ((pp + 1 + sv_len 4) + 1) nu mo).2.2.2), .int jo, .int vo, .int (bo_I re)])), (sa, .inl (cI, 120, .inl tx))] := by rw [z9] <;> rfl
              exact W.zret (v := 0) hx hb hr rfl (fun t ht hW => ⟨⟨_, (), rfl, q9, by rw [ht, e9]; exact hP, va_K.moved hW.alike hK, by rw [e9]; exact hD⟩, hS.F ht⟩) hS.2.2 d_Rd_takeClauses_88
            · rw [hb_71] at hP hD
              have hP : va_P (dC, dI) ga_cl [(rd, .inr (3, [.ref sa, .int (nI n), .int (nI ((((rd_mon tx n 13 0 ((pp + 1 + sv_len 4) + 1) nu mo).2.1) + 1 + sv_len 6) + 1)), .int ((rd_mon tx n 13 0 ((pp + 1 + sv_len 4) + 1) nu mo).2.2.1), .int st, .int ((rd_mon tx n 13 0 ((pp + 1 + sv_len 4) + 1) nu mo).2.2.2), .int jo, .int vo, .int (bo_I re)])), (sa, .inl (cI, 120, .inl tx))] H := hP
              have hD : va_D A [(rd, .inr (3, [.ref sa, .int (nI n), .int (nI ((((rd_mon tx n 13 0 ((pp + 1 + sv_len 4) + 1) nu mo).2.1) + 1 + sv_len 6) + 1)), .int ((rd_mon tx n 13 0 ((pp + 1 + sv_len 4) + 1) nu mo).2.2.1), .int st, .int ((rd_mon tx n 13 0 ((pp + 1 + sv_len 4) + 1) nu mo).2.2.2), .int jo, .int vo, .int (bo_I re)])), (sa, .inl (cI, 120, .inl tx))] := hD
              have l_71 := rd_sp_lt hb_71
              refine lv_if_eq (tgt := 87) hx hb d_Rd_takeClauses_74 (by decide) (fun z9 => absurd z9 (by decide)) (fun _ => ?_)
              refine lv_aload_n hx hb d_Rd_takeClauses_77 rfl (lv_at hl 0 rfl) ?_
              refine lv_iconst (v := 1) hx hb d_Rd_takeClauses_78 (by decide) ?_
              refine lv_bipush (v := 99) hx hb d_Rd_takeClauses_79 (by decide) ?_
              refine wy_calli (wr := []) (w1 := [(rd, .inr (3, [.ref sa, .int (nI n), .int (nI (cond (rd_num tx n 1 99 ((((rd_mon tx n 13 0 ((pp + 1 + sv_len 4) + 1) nu mo).2.1) + 1 + sv_len 6) + 1)) (rd_end tx n ((((rd_mon tx n 13 0 ((pp + 1 + sv_len 4) + 1) nu mo).2.1) + 1 + sv_len 6) + 1)) ((((rd_mon tx n 13 0 ((pp + 1 + sv_len 4) + 1) nu mo).2.1) + 1 + sv_len 6) + 1))), .int (cond (rd_num tx n 1 99 ((((rd_mon tx n 13 0 ((pp + 1 + sv_len 4) + 1) nu mo).2.1) + 1 + sv_len 6) + 1)) (nI (rd_val tx n ((((rd_mon tx n 13 0 ((pp + 1 + sv_len 4) + 1) nu mo).2.1) + 1 + sv_len 6) + 1))) ((rd_mon tx n 13 0 ((pp + 1 + sv_len 4) + 1) nu mo).2.2.1)), .int st, .int ((rd_mon tx n 13 0 ((pp + 1 + sv_len 4) + 1) nu mo).2.2.2), .int jo, .int vo, .int (bo_I re)])), (sa, .inl (cI, 120, .inl tx))]) (va_runV (As := [.int 1, .int 99]) (rest := []) ⟨hx, hb, hml, hown, hts⟩ (c_Rd_takeNumber l dC dI H.size rd sa cI tx n ((((rd_mon tx n 13 0 ((pp + 1 + sv_len 4) + 1) nu mo).2.1) + 1 + sv_len 6) + 1) ((rd_mon tx n 13 0 ((pp + 1 + sv_len 4) + 1) nu mo).2.2.1) st ((rd_mon tx n 13 0 ((pp + 1 + sv_len 4) + 1) nu mo).2.2.2) jo vo re 1 99 (by omega) (by omega) (by omega) (by omega)) (cwV 2 hts (ga_V kw_262 kw_264 kw_5 kw_35 (ga_in kw_265)) rfl rfl rfl (by decide +kernel) ⟨Nat.le_of_ble_eq_true rfl, Nat.le_of_ble_eq_true rfl⟩) (wy_mreV 0 (hP.sub (ws' := [(rd, .inr (3, [.ref sa, .int (nI n), .int (nI ((((rd_mon tx n 13 0 ((pp + 1 + sv_len 4) + 1) nu mo).2.1) + 1 + sv_len 6) + 1)), .int ((rd_mon tx n 13 0 ((pp + 1 + sv_len 4) + 1) nu mo).2.2.1), .int st, .int ((rd_mon tx n 13 0 ((pp + 1 + sv_len 4) + 1) nu mo).2.2.2), .int jo, .int vo, .int (bo_I re)])), (sa, .inl (cI, 120, .inl tx))]) [0, 1] rfl) (hK.sub (tys' := [(cI, .int)]) [0] rfl) hN (hD.sub (ws' := [(rd, .inr (3, [.ref sa, .int (nI n), .int (nI ((((rd_mon tx n 13 0 ((pp + 1 + sv_len 4) + 1) nu mo).2.1) + 1 + sv_len 6) + 1)), .int ((rd_mon tx n 13 0 ((pp + 1 + sv_len 4) + 1) nu mo).2.2.1), .int st, .int ((rd_mon tx n 13 0 ((pp + 1 + sv_len 4) + 1) nu mo).2.2.2), .int jo, .int vo, .int (bo_I re)])), (sa, .inl (cI, 120, .inl tx))]) [0, 1] (by decide) rfl) (ci := 3) rfl rfl rfl) rfl rfl hl.1 rfl (lv_room (Nat.le_of_ble_eq_true rfl)) d_Rd_takeClauses_81 ⟨Nat.le_of_ble_eq_true rfl, Nat.le_of_ble_eq_true rfl⟩) hP hD hS hA [0, 1] [] rfl rfl (by decide) (by decide) (fun H locs hP hD hS => ?_)
              have hP := hP.sub (ws' := [(rd, .inr (3, [.ref sa, .int (nI n), .int (nI (cond (rd_num tx n 1 99 ((((rd_mon tx n 13 0 ((pp + 1 + sv_len 4) + 1) nu mo).2.1) + 1 + sv_len 6) + 1)) (rd_end tx n ((((rd_mon tx n 13 0 ((pp + 1 + sv_len 4) + 1) nu mo).2.1) + 1 + sv_len 6) + 1)) ((((rd_mon tx n 13 0 ((pp + 1 + sv_len 4) + 1) nu mo).2.1) + 1 + sv_len 6) + 1))), .int (cond (rd_num tx n 1 99 ((((rd_mon tx n 13 0 ((pp + 1 + sv_len 4) + 1) nu mo).2.1) + 1 + sv_len 6) + 1)) (nI (rd_val tx n ((((rd_mon tx n 13 0 ((pp + 1 + sv_len 4) + 1) nu mo).2.1) + 1 + sv_len 6) + 1))) ((rd_mon tx n 13 0 ((pp + 1 + sv_len 4) + 1) nu mo).2.2.1)), .int st, .int ((rd_mon tx n 13 0 ((pp + 1 + sv_len 4) + 1) nu mo).2.2.2), .int jo, .int vo, .int (bo_I re)])), (sa, .inl (cI, 120, .inl tx))]) [0, 1] rfl
              have hD := hD.sub (ws' := [(rd, .inr (3, [.ref sa, .int (nI n), .int (nI (cond (rd_num tx n 1 99 ((((rd_mon tx n 13 0 ((pp + 1 + sv_len 4) + 1) nu mo).2.1) + 1 + sv_len 6) + 1)) (rd_end tx n ((((rd_mon tx n 13 0 ((pp + 1 + sv_len 4) + 1) nu mo).2.1) + 1 + sv_len 6) + 1)) ((((rd_mon tx n 13 0 ((pp + 1 + sv_len 4) + 1) nu mo).2.1) + 1 + sv_len 6) + 1))), .int (cond (rd_num tx n 1 99 ((((rd_mon tx n 13 0 ((pp + 1 + sv_len 4) + 1) nu mo).2.1) + 1 + sv_len 6) + 1)) (nI (rd_val tx n ((((rd_mon tx n 13 0 ((pp + 1 + sv_len 4) + 1) nu mo).2.1) + 1 + sv_len 6) + 1))) ((rd_mon tx n 13 0 ((pp + 1 + sv_len 4) + 1) nu mo).2.2.1)), .int st, .int ((rd_mon tx n 13 0 ((pp + 1 + sv_len 4) + 1) nu mo).2.2.2), .int jo, .int vo, .int (bo_I re)])), (sa, .inl (cI, 120, .inl tx))]) [0, 1] (by decide) rfl
              rcases hb_81 : rd_num tx n 1 99 ((((rd_mon tx n 13 0 ((pp + 1 + sv_len 4) + 1) nu mo).2.1) + 1 + sv_len 6) + 1) with _ | _
              · rw [hb_81] at hP hD
                have hP : va_P (dC, dI) ga_cl [(rd, .inr (3, [.ref sa, .int (nI n), .int (nI ((((rd_mon tx n 13 0 ((pp + 1 + sv_len 4) + 1) nu mo).2.1) + 1 + sv_len 6) + 1)), .int ((rd_mon tx n 13 0 ((pp + 1 + sv_len 4) + 1) nu mo).2.2.1), .int st, .int ((rd_mon tx n 13 0 ((pp + 1 + sv_len 4) + 1) nu mo).2.2.2), .int jo, .int vo, .int (bo_I re)])), (sa, .inl (cI, 120, .inl tx))] H := hP
                have hD : va_D A [(rd, .inr (3, [.ref sa, .int (nI n), .int (nI ((((rd_mon tx n 13 0 ((pp + 1 + sv_len 4) + 1) nu mo).2.1) + 1 + sv_len 6) + 1)), .int ((rd_mon tx n 13 0 ((pp + 1 + sv_len 4) + 1) nu mo).2.2.1), .int st, .int ((rd_mon tx n 13 0 ((pp + 1 + sv_len 4) + 1) nu mo).2.2.2), .int jo, .int vo, .int (bo_I re)])), (sa, .inl (cI, 120, .inl tx))] := hD
                refine lv_if_ne (tgt := 89) hx hb d_Rd_takeClauses_84 (by decide) (fun z9 => absurd z9 (by decide)) (fun _ => ?_)
                refine lv_iconst (v := 0) hx hb d_Rd_takeClauses_87 (by decide) ?_
                rw [hQ]
                have z9 : rd_cl tx n pp nu mo jo vo re = (false, (((rd_mon tx n 13 0 ((pp + 1 + sv_len 4) + 1) nu mo).2.1) + 1 + sv_len 6) + 1, ((rd_mon tx n 13 0 ((pp + 1 + sv_len 4) + 1) nu mo).2.2.1), ((rd_mon tx n 13 0 ((pp + 1 + sv_len 4) + 1) nu mo).2.2.2), jo, vo, re) := by simp only [rd_cl, rd_c1, rd_c2, rd_c3, hb_3, hb_10, hb_17, hb_28, hb_64, hb_71, hb_81, cond_true, cond_false]
                have q9 : (0 : Int32) = bo_I ((rd_cl tx n pp nu mo jo vo re).1) := by rw [z9]; rfl
                have e9 : ([(rd, .inr (3, [.ref sa, .int (nI n), .int (nI ((rd_cl tx n pp nu mo jo vo re).2.1)), .int ((rd_cl tx n pp nu mo jo vo re).2.2.1), .int st, .int ((rd_cl tx n pp nu mo jo vo re).2.2.2.1), .int ((rd_cl tx n pp nu mo jo vo re).2.2.2.2.1), .int ((rd_cl tx n pp nu mo jo vo re).2.2.2.2.2.1), .int (bo_I ((rd_cl tx n pp nu mo jo vo re).2.2.2.2.2.2))])), (sa, .inl (cI, 120, .inl tx))] : va_W) = [(rd, .inr (3, [.ref sa, .int (nI n), .int (nI ((((rd_mon tx n 13 0 ((pp + 1 + sv_len 4) + 1) nu mo).2.1) + 1 + sv_len 6) + 1)), .int ((rd_mon tx n 13 0 ((pp + 1 + sv_len 4) + 1) nu mo).2.2.1), .int st, .int ((rd_mon tx n 13 0 ((pp + 1 + sv_len 4) + 1) nu mo).2.2.2), .int jo, .int vo, .int (bo_I re)])), (sa, .inl (cI, 120, .inl tx))] := by rw [z9] <;> rfl
                exact W.zret (v := 0) hx hb hr rfl (fun t ht hW => ⟨⟨_, (), rfl, q9, by rw [ht, e9]; exact hP, va_K.moved hW.alike hK, by rw [e9]; exact hD⟩, hS.F ht⟩) hS.2.2 d_Rd_takeClauses_88
              · rw [hb_81] at hP hD
                have hP : va_P (dC, dI) ga_cl [(rd, .inr (3, [.ref sa, .int (nI n), .int (nI (rd_end tx n ((((rd_mon tx n 13 0 ((pp + 1 + sv_len 4) + 1) nu mo).2.1) + 1 + sv_len 6) + 1))), .int (nI (rd_val tx n ((((rd_mon tx n 13 0 ((pp + 1 + sv_len 4) + 1) nu mo).2.1) + 1 + sv_len 6) + 1))), .int st, .int ((rd_mon tx n 13 0 ((pp + 1 + sv_len 4) + 1) nu mo).2.2.2), .int jo, .int vo, .int (bo_I re)])), (sa, .inl (cI, 120, .inl tx))] H := hP
                have hD : va_D A [(rd, .inr (3, [.ref sa, .int (nI n), .int (nI (rd_end tx n ((((rd_mon tx n 13 0 ((pp + 1 + sv_len 4) + 1) nu mo).2.1) + 1 + sv_len 6) + 1))), .int (nI (rd_val tx n ((((rd_mon tx n 13 0 ((pp + 1 + sv_len 4) + 1) nu mo).2.1) + 1 + sv_len 6) + 1))), .int st, .int ((rd_mon tx n 13 0 ((pp + 1 + sv_len 4) + 1) nu mo).2.2.2), .int jo, .int vo, .int (bo_I re)])), (sa, .inl (cI, 120, .inl tx))] := hD
                have l_81 := rd_end_le (tx := tx) (n := n) (p := _ + 1) l_71
                refine lv_if_ne (tgt := 89) hx hb d_Rd_takeClauses_84 (by decide) (fun _ => ?_) (fun z9 => absurd z9 (by decide))
                refine lv_aload_n hx hb d_Rd_takeClauses_89 rfl (lv_at hl 0 rfl) ?_
                refine lv_aload_n hx hb d_Rd_takeClauses_90 rfl (lv_at hl 0 rfl) ?_
                refine va_get (D := (dC, dI)) (ci := 3) (v := .int (nI (rd_val tx n ((((rd_mon tx n 13 0 ((pp + 1 + sv_len 4) + 1) nu mo).2.1) + 1 + sv_len 6) + 1)))) (C := "PatternText$PatternReader") (T := F_Rd) (N := 9) hx hb hts iw_Rd hown hK hP 0 rfl rfl 3 (by decide) (hts _ kw_68) (fun _ h9 => h9) rfl d_Rd_takeClauses_91 ?_
                refine va_put (D := (dC, dI)) (ci := 3) (v := .int (nI (rd_val tx n ((((rd_mon tx n 13 0 ((pp + 1 + sv_len 4) + 1) nu mo).2.1) + 1 + sv_len 6) + 1)))) (ty := .int) (C := "PatternText$PatternReader") (T := F_Rd) (N := 9) hx hb hts iw_Rd t_Rd t_Rd_ok n_Rd hown hK hP hD hS 0 rfl rfl 7 (by decide) (hts _ kw_72) (fun _ h9 => h9) rfl (by decide +kernel) rfl rfl (Nat.le_of_ble_eq_true rfl) d_Rd_takeClauses_94 (fun H locs hP hD hS => ?_)
                have hP : va_P (dC, dI) ga_cl [(rd, .inr (3, [.ref sa, .int (nI n), .int (nI (rd_end tx n ((((rd_mon tx n 13 0 ((pp + 1 + sv_len 4) + 1) nu mo).2.1) + 1 + sv_len 6) + 1))), .int (nI (rd_val tx n ((((rd_mon tx n 13 0 ((pp + 1 + sv_len 4) + 1) nu mo).2.1) + 1 + sv_len 6) + 1))), .int st, .int ((rd_mon tx n 13 0 ((pp + 1 + sv_len 4) + 1) nu mo).2.2.2), .int jo, .int (nI (rd_val tx n ((((rd_mon tx n 13 0 ((pp + 1 + sv_len 4) + 1) nu mo).2.1) + 1 + sv_len 6) + 1))), .int (bo_I re)])), (sa, .inl (cI, 120, .inl tx))] H := hP
                have hD : va_D A [(rd, .inr (3, [.ref sa, .int (nI n), .int (nI (rd_end tx n ((((rd_mon tx n 13 0 ((pp + 1 + sv_len 4) + 1) nu mo).2.1) + 1 + sv_len 6) + 1))), .int (nI (rd_val tx n ((((rd_mon tx n 13 0 ((pp + 1 + sv_len 4) + 1) nu mo).2.1) + 1 + sv_len 6) + 1))), .int st, .int ((rd_mon tx n 13 0 ((pp + 1 + sv_len 4) + 1) nu mo).2.2.2), .int jo, .int (nI (rd_val tx n ((((rd_mon tx n 13 0 ((pp + 1 + sv_len 4) + 1) nu mo).2.1) + 1 + sv_len 6) + 1))), .int (bo_I re)])), (sa, .inl (cI, 120, .inl tx))] := hD
                refine lv_aload_n hx hb d_Rd_takeClauses_97 rfl (lv_at hl 0 rfl) ?_
                refine lv_aload_n hx hb d_Rd_takeClauses_98 rfl (lv_at hl 0 rfl) ?_
                refine va_ldcS hx hb hown (hE.2.2 7 (by decide)).2 d_Rd_takeClauses_99 ?_
                have hF_101 := va_free (wc := [(rd, .inr (3, [.ref sa, .int (nI n), .int (nI (rd_end tx n ((((rd_mon tx n 13 0 ((pp + 1 + sv_len 4) + 1) nu mo).2.1) + 1 + sv_len 6) + 1))), .int (nI (rd_val tx n ((((rd_mon tx n 13 0 ((pp + 1 + sv_len 4) + 1) nu mo).2.1) + 1 + sv_len 6) + 1))), .int st, .int ((rd_mon tx n 13 0 ((pp + 1 + sv_len 4) + 1) nu mo).2.2.2), .int jo, .int (nI (rd_val tx n ((((rd_mon tx n 13 0 ((pp + 1 + sv_len 4) + 1) nu mo).2.1) + 1 + sv_len 6) + 1))), .int (bo_I re)])), (sa, .inl (cI, 120, .inl tx))]) hD hS hA [0, 1] rfl
                refine wy_calli (wr := []) (w1 := [(rd, .inr (3, [.ref sa, .int (nI n), .int (nI (cond (rd_next tx n (rd_end tx n ((((rd_mon tx n 13 0 ((pp + 1 + sv_len 4) + 1) nu mo).2.1) + 1 + sv_len 6) + 1)) (sv_w 7) (sv_len 7)) ((rd_end tx n ((((rd_mon tx n 13 0 ((pp + 1 + sv_len 4) + 1) nu mo).2.1) + 1 + sv_len 6) + 1)) + 1 + sv_len 7) (rd_end tx n ((((rd_mon tx n 13 0 ((pp + 1 + sv_len 4) + 1) nu mo).2.1) + 1 + sv_len 6) + 1)))), .int (nI (rd_val tx n ((((rd_mon tx n 13 0 ((pp + 1 + sv_len 4) + 1) nu mo).2.1) + 1 + sv_len 6) + 1))), .int st, .int ((rd_mon tx n 13 0 ((pp + 1 + sv_len 4) + 1) nu mo).2.2.2), .int jo, .int (nI (rd_val tx n ((((rd_mon tx n 13 0 ((pp + 1 + sv_len 4) + 1) nu mo).2.1) + 1 + sv_len 6) + 1))), .int (bo_I re)])), (sa, .inl (cI, 120, .inl tx))]) (va_runV (As := [.ref (ad 7)]) (rest := [.ref rd]) ⟨hx, hb, hml, hown, hts⟩ (c_Rd_takeNextWord l dC dI H.size ad av rd sa cI tx n (rd_end tx n ((((rd_mon tx n 13 0 ((pp + 1 + sv_len 4) + 1) nu mo).2.1) + 1 + sv_len 6) + 1)) (nI (rd_val tx n ((((rd_mon tx n 13 0 ((pp + 1 + sv_len 4) + 1) nu mo).2.1) + 1 + sv_len 6) + 1))) st ((rd_mon tx n 13 0 ((pp + 1 + sv_len 4) + 1) nu mo).2.2.2) jo (nI (rd_val tx n ((((rd_mon tx n 13 0 ((pp + 1 + sv_len 4) + 1) nu mo).2.1) + 1 + sv_len 6) + 1))) re 7 (by omega) (by omega) (by decide)) (cwV 1 hts (ga_V kw_280 kw_282 kw_7 kw_35 (ga_in kw_283)) rfl rfl rfl (by decide +kernel) ⟨Nat.le_of_ble_eq_true rfl, Nat.le_of_ble_eq_true rfl⟩) (wy_mreVE 0 (hP.sub (ws' := [(rd, .inr (3, [.ref sa, .int (nI n), .int (nI (rd_end tx n ((((rd_mon tx n 13 0 ((pp + 1 + sv_len 4) + 1) nu mo).2.1) + 1 + sv_len 6) + 1))), .int (nI (rd_val tx n ((((rd_mon tx n 13 0 ((pp + 1 + sv_len 4) + 1) nu mo).2.1) + 1 + sv_len 6) + 1))), .int st, .int ((rd_mon tx n 13 0 ((pp + 1 + sv_len 4) + 1) nu mo).2.2.2), .int jo, .int (nI (rd_val tx n ((((rd_mon tx n 13 0 ((pp + 1 + sv_len 4) + 1) nu mo).2.1) + 1 + sv_len 6) + 1))), .int (bo_I re)])), (sa, .inl (cI, 120, .inl tx))]) [0, 1] rfl) (hK.sub (tys' := [(cI, .int)]) [0] rfl) hN (hD.sub (ws' := [(rd, .inr (3, [.ref sa, .int (nI n), .int (nI (rd_end tx n ((((rd_mon tx n 13 0 ((pp + 1 + sv_len 4) + 1) nu mo).2.1) + 1 + sv_len 6) + 1))), .int (nI (rd_val tx n ((((rd_mon tx n 13 0 ((pp + 1 + sv_len 4) + 1) nu mo).2.1) + 1 + sv_len 6) + 1))), .int st, .int ((rd_mon tx n 13 0 ((pp + 1 + sv_len 4) + 1) nu mo).2.2.2), .int jo, .int (nI (rd_val tx n ((((rd_mon tx n 13 0 ((pp + 1 + sv_len 4) + 1) nu mo).2.1) + 1 + sv_len 6) + 1))), .int (bo_I re)])), (sa, .inl (cI, 120, .inl tx))]) [0, 1] (by decide) rfl) hE hS hF_101 (ci := 3) rfl rfl rfl) rfl rfl hl.1 rfl (lv_room (Nat.le_of_ble_eq_true rfl)) d_Rd_takeClauses_101 ⟨Nat.le_of_ble_eq_true rfl, Nat.le_of_ble_eq_true rfl⟩) hP hD hS hA [0, 1] [] rfl rfl (by decide) (by decide) (fun H locs hP hD hS => ?_)
                have hP := hP.sub (ws' := [(rd, .inr (3, [.ref sa, .int (nI n), .int (nI (cond (rd_next tx n (rd_end tx n ((((rd_mon tx n 13 0 ((pp + 1 + sv_len 4) + 1) nu mo).2.1) + 1 + sv_len 6) + 1)) (sv_w 7) (sv_len 7)) ((rd_end tx n ((((rd_mon tx n 13 0 ((pp + 1 + sv_len 4) + 1) nu mo).2.1) + 1 + sv_len 6) + 1)) + 1 + sv_len 7) (rd_end tx n ((((rd_mon tx n 13 0 ((pp + 1 + sv_len 4) + 1) nu mo).2.1) + 1 + sv_len 6) + 1)))), .int (nI (rd_val tx n ((((rd_mon tx n 13 0 ((pp + 1 + sv_len 4) + 1) nu mo).2.1) + 1 + sv_len 6) + 1))), .int st, .int ((rd_mon tx n 13 0 ((pp + 1 + sv_len 4) + 1) nu mo).2.2.2), .int jo, .int (nI (rd_val tx n ((((rd_mon tx n 13 0 ((pp + 1 + sv_len 4) + 1) nu mo).2.1) + 1 + sv_len 6) + 1))), .int (bo_I re)])), (sa, .inl (cI, 120, .inl tx))]) [0, 1] rfl
                have hD := hD.sub (ws' := [(rd, .inr (3, [.ref sa, .int (nI n), .int (nI (cond (rd_next tx n (rd_end tx n ((((rd_mon tx n 13 0 ((pp + 1 + sv_len 4) + 1) nu mo).2.1) + 1 + sv_len 6) + 1)) (sv_w 7) (sv_len 7)) ((rd_end tx n ((((rd_mon tx n 13 0 ((pp + 1 + sv_len 4) + 1) nu mo).2.1) + 1 + sv_len 6) + 1)) + 1 + sv_len 7) (rd_end tx n ((((rd_mon tx n 13 0 ((pp + 1 + sv_len 4) + 1) nu mo).2.1) + 1 + sv_len 6) + 1)))), .int (nI (rd_val tx n ((((rd_mon tx n 13 0 ((pp + 1 + sv_len 4) + 1) nu mo).2.1) + 1 + sv_len 6) + 1))), .int st, .int ((rd_mon tx n 13 0 ((pp + 1 + sv_len 4) + 1) nu mo).2.2.2), .int jo, .int (nI (rd_val tx n ((((rd_mon tx n 13 0 ((pp + 1 + sv_len 4) + 1) nu mo).2.1) + 1 + sv_len 6) + 1))), .int (bo_I re)])), (sa, .inl (cI, 120, .inl tx))]) [0, 1] (by decide) rfl
                rcases hb_101 : rd_next tx n (rd_end tx n ((((rd_mon tx n 13 0 ((pp + 1 + sv_len 4) + 1) nu mo).2.1) + 1 + sv_len 6) + 1)) (sv_w 7) (sv_len 7) with _ | _
                · rw [hb_101] at hP hD
                  have hP : va_P (dC, dI) ga_cl [(rd, .inr (3, [.ref sa, .int (nI n), .int (nI (rd_end tx n ((((rd_mon tx n 13 0 ((pp + 1 + sv_len 4) + 1) nu mo).2.1) + 1 + sv_len 6) + 1))), .int (nI (rd_val tx n ((((rd_mon tx n 13 0 ((pp + 1 + sv_len 4) + 1) nu mo).2.1) + 1 + sv_len 6) + 1))), .int st, .int ((rd_mon tx n 13 0 ((pp + 1 + sv_len 4) + 1) nu mo).2.2.2), .int jo, .int (nI (rd_val tx n ((((rd_mon tx n 13 0 ((pp + 1 + sv_len 4) + 1) nu mo).2.1) + 1 + sv_len 6) + 1))), .int (bo_I re)])), (sa, .inl (cI, 120, .inl tx))] H := hP
                  have hD : va_D A [(rd, .inr (3, [.ref sa, .int (nI n), .int (nI (rd_end tx n ((((rd_mon tx n 13 0 ((pp + 1 + sv_len 4) + 1) nu mo).2.1) + 1 + sv_len 6) + 1))), .int (nI (rd_val tx n ((((rd_mon tx n 13 0 ((pp + 1 + sv_len 4) + 1) nu mo).2.1) + 1 + sv_len 6) + 1))), .int st, .int ((rd_mon tx n 13 0 ((pp + 1 + sv_len 4) + 1) nu mo).2.2.2), .int jo, .int (nI (rd_val tx n ((((rd_mon tx n 13 0 ((pp + 1 + sv_len 4) + 1) nu mo).2.1) + 1 + sv_len 6) + 1))), .int (bo_I re)])), (sa, .inl (cI, 120, .inl tx))] := hD
                  refine va_put (D := (dC, dI)) (ci := 3) (v := .int 0) (ty := .boolean) (C := "PatternText$PatternReader") (T := F_Rd) (N := 9) hx hb hts iw_Rd t_Rd t_Rd_ok n_Rd hown hK hP hD hS 0 rfl rfl 8 (by decide) (hts _ kw_73) (fun _ h9 => h9) rfl (by decide +kernel) rfl rfl (Nat.le_of_ble_eq_true rfl) d_Rd_takeClauses_104 (fun H locs hP hD hS => ?_)
                  have hP : va_P (dC, dI) ga_cl [(rd, .inr (3, [.ref sa, .int (nI n), .int (nI (rd_end tx n ((((rd_mon tx n 13 0 ((pp + 1 + sv_len 4) + 1) nu mo).2.1) + 1 + sv_len 6) + 1))), .int (nI (rd_val tx n ((((rd_mon tx n 13 0 ((pp + 1 + sv_len 4) + 1) nu mo).2.1) + 1 + sv_len 6) + 1))), .int st, .int ((rd_mon tx n 13 0 ((pp + 1 + sv_len 4) + 1) nu mo).2.2.2), .int jo, .int (nI (rd_val tx n ((((rd_mon tx n 13 0 ((pp + 1 + sv_len 4) + 1) nu mo).2.1) + 1 + sv_len 6) + 1))), .int 0])), (sa, .inl (cI, 120, .inl tx))] H := hP
                  have hD : va_D A [(rd, .inr (3, [.ref sa, .int (nI n), .int (nI (rd_end tx n ((((rd_mon tx n 13 0 ((pp + 1 + sv_len 4) + 1) nu mo).2.1) + 1 + sv_len 6) + 1))), .int (nI (rd_val tx n ((((rd_mon tx n 13 0 ((pp + 1 + sv_len 4) + 1) nu mo).2.1) + 1 + sv_len 6) + 1))), .int st, .int ((rd_mon tx n 13 0 ((pp + 1 + sv_len 4) + 1) nu mo).2.2.2), .int jo, .int (nI (rd_val tx n ((((rd_mon tx n 13 0 ((pp + 1 + sv_len 4) + 1) nu mo).2.1) + 1 + sv_len 6) + 1))), .int 0])), (sa, .inl (cI, 120, .inl tx))] := hD
                  refine lv_iconst (v := 1) hx hb d_Rd_takeClauses_107 (by decide) ?_
                  rw [hQ]
                  have z9 : rd_cl tx n pp nu mo jo vo re = (true, rd_end tx n ((((rd_mon tx n 13 0 ((pp + 1 + sv_len 4) + 1) nu mo).2.1) + 1 + sv_len 6) + 1), (nI (rd_val tx n ((((rd_mon tx n 13 0 ((pp + 1 + sv_len 4) + 1) nu mo).2.1) + 1 + sv_len 6) + 1))), ((rd_mon tx n 13 0 ((pp + 1 + sv_len 4) + 1) nu mo).2.2.2), jo, (nI (rd_val tx n ((((rd_mon tx n 13 0 ((pp + 1 + sv_len 4) + 1) nu mo).2.1) + 1 + sv_len 6) + 1))), false) := by simp only [rd_cl, rd_c1, rd_c2, rd_c3, hb_3, hb_10, hb_17, hb_28, hb_64, hb_71, hb_81, hb_101, cond_true, cond_false]
                  have q9 : (1 : Int32) = bo_I ((rd_cl tx n pp nu mo jo vo re).1) := by rw [z9]; rfl
                  have e9 : ([(rd, .inr (3, [.ref sa, .int (nI n), .int (nI ((rd_cl tx n pp nu mo jo vo re).2.1)), .int ((rd_cl tx n pp nu mo jo vo re).2.2.1), .int st, .int ((rd_cl tx n pp nu mo jo vo re).2.2.2.1), .int ((rd_cl tx n pp nu mo jo vo re).2.2.2.2.1), .int ((rd_cl tx n pp nu mo jo vo re).2.2.2.2.2.1), .int (bo_I ((rd_cl tx n pp nu mo jo vo re).2.2.2.2.2.2))])), (sa, .inl (cI, 120, .inl tx))] : va_W) = [(rd, .inr (3, [.ref sa, .int (nI n), .int (nI (rd_end tx n ((((rd_mon tx n 13 0 ((pp + 1 + sv_len 4) + 1) nu mo).2.1) + 1 + sv_len 6) + 1))), .int (nI (rd_val tx n ((((rd_mon tx n 13 0 ((pp + 1 + sv_len 4) + 1) nu mo).2.1) + 1 + sv_len 6) + 1))), .int st, .int ((rd_mon tx n 13 0 ((pp + 1 + sv_len 4) + 1) nu mo).2.2.2), .int jo, .int (nI (rd_val tx n ((((rd_mon tx n 13 0 ((pp + 1 + sv_len 4) + 1) nu mo).2.1) + 1 + sv_len 6) + 1))), .int 0])), (sa, .inl (cI, 120, .inl tx))] := by rw [z9] <;> rfl
                  exact W.zret (v := 1) hx hb hr rfl (fun t ht hW => ⟨⟨_, (), rfl, q9, by rw [ht, e9]; exact hP, va_K.moved hW.alike hK, by rw [e9]; exact hD⟩, hS.F ht⟩) hS.2.2 d_Rd_takeClauses_108
                · rw [hb_101] at hP hD
                  have hP : va_P (dC, dI) ga_cl [(rd, .inr (3, [.ref sa, .int (nI n), .int (nI ((rd_end tx n ((((rd_mon tx n 13 0 ((pp + 1 + sv_len 4) + 1) nu mo).2.1) + 1 + sv_len 6) + 1)) + 1 + sv_len 7)), .int (nI (rd_val tx n ((((rd_mon tx n 13 0 ((pp + 1 + sv_len 4) + 1) nu mo).2.1) + 1 + sv_len 6) + 1))), .int st, .int ((rd_mon tx n 13 0 ((pp + 1 + sv_len 4) + 1) nu mo).2.2.2), .int jo, .int (nI (rd_val tx n ((((rd_mon tx n 13 0 ((pp + 1 + sv_len 4) + 1) nu mo).2.1) + 1 + sv_len 6) + 1))), .int (bo_I re)])), (sa, .inl (cI, 120, .inl tx))] H := hP
                  have hD : va_D A [(rd, .inr (3, [.ref sa, .int (nI n), .int (nI ((rd_end tx n ((((rd_mon tx n 13 0 ((pp + 1 + sv_len 4) + 1) nu mo).2.1) + 1 + sv_len 6) + 1)) + 1 + sv_len 7)), .int (nI (rd_val tx n ((((rd_mon tx n 13 0 ((pp + 1 + sv_len 4) + 1) nu mo).2.1) + 1 + sv_len 6) + 1))), .int st, .int ((rd_mon tx n 13 0 ((pp + 1 + sv_len 4) + 1) nu mo).2.2.2), .int jo, .int (nI (rd_val tx n ((((rd_mon tx n 13 0 ((pp + 1 + sv_len 4) + 1) nu mo).2.1) + 1 + sv_len 6) + 1))), .int (bo_I re)])), (sa, .inl (cI, 120, .inl tx))] := hD
                  refine va_put (D := (dC, dI)) (ci := 3) (v := .int 1) (ty := .boolean) (C := "PatternText$PatternReader") (T := F_Rd) (N := 9) hx hb hts iw_Rd t_Rd t_Rd_ok n_Rd hown hK hP hD hS 0 rfl rfl 8 (by decide) (hts _ kw_73) (fun _ h9 => h9) rfl (by decide +kernel) rfl rfl (Nat.le_of_ble_eq_true rfl) d_Rd_takeClauses_104 (fun H locs hP hD hS => ?_)
                  have hP : va_P (dC, dI) ga_cl [(rd, .inr (3, [.ref sa, .int (nI n), .int (nI ((rd_end tx n ((((rd_mon tx n 13 0 ((pp + 1 + sv_len 4) + 1) nu mo).2.1) + 1 + sv_len 6) + 1)) + 1 + sv_len 7)), .int (nI (rd_val tx n ((((rd_mon tx n 13 0 ((pp + 1 + sv_len 4) + 1) nu mo).2.1) + 1 + sv_len 6) + 1))), .int st, .int ((rd_mon tx n 13 0 ((pp + 1 + sv_len 4) + 1) nu mo).2.2.2), .int jo, .int (nI (rd_val tx n ((((rd_mon tx n 13 0 ((pp + 1 + sv_len 4) + 1) nu mo).2.1) + 1 + sv_len 6) + 1))), .int 1])), (sa, .inl (cI, 120, .inl tx))] H := hP
                  have hD : va_D A [(rd, .inr (3, [.ref sa, .int (nI n), .int (nI ((rd_end tx n ((((rd_mon tx n 13 0 ((pp + 1 + sv_len 4) + 1) nu mo).2.1) + 1 + sv_len 6) + 1)) + 1 + sv_len 7)), .int (nI (rd_val tx n ((((rd_mon tx n 13 0 ((pp + 1 + sv_len 4) + 1) nu mo).2.1) + 1 + sv_len 6) + 1))), .int st, .int ((rd_mon tx n 13 0 ((pp + 1 + sv_len 4) + 1) nu mo).2.2.2), .int jo, .int (nI (rd_val tx n ((((rd_mon tx n 13 0 ((pp + 1 + sv_len 4) + 1) nu mo).2.1) + 1 + sv_len 6) + 1))), .int 1])), (sa, .inl (cI, 120, .inl tx))] := hD
                  refine lv_iconst (v := 1) hx hb d_Rd_takeClauses_107 (by decide) ?_
                  rw [hQ]
                  have z9 : rd_cl tx n pp nu mo jo vo re = (true, (rd_end tx n ((((rd_mon tx n 13 0 ((pp + 1 + sv_len 4) + 1) nu mo).2.1) + 1 + sv_len 6) + 1)) + 1 + sv_len 7, (nI (rd_val tx n ((((rd_mon tx n 13 0 ((pp + 1 + sv_len 4) + 1) nu mo).2.1) + 1 + sv_len 6) + 1))), ((rd_mon tx n 13 0 ((pp + 1 + sv_len 4) + 1) nu mo).2.2.2), jo, (nI (rd_val tx n ((((rd_mon tx n 13 0 ((pp + 1 + sv_len 4) + 1) nu mo).2.1) + 1 + sv_len 6) + 1))), true) := by simp only [rd_cl, rd_c1, rd_c2, rd_c3, hb_3, hb_10, hb_17, hb_28, hb_64, hb_71, hb_81, hb_101, cond_true, cond_false]
                  have q9 : (1 : Int32) = bo_I ((rd_cl tx n pp nu mo jo vo re).1) := by rw [z9]; rfl
                  have e9 : ([(rd, .inr (3, [.ref sa, .int (nI n), .int (nI ((rd_cl tx n pp nu mo jo vo re).2.1)), .int ((rd_cl tx n pp nu mo jo vo re).2.2.1), .int st, .int ((rd_cl tx n pp nu mo jo vo re).2.2.2.1), .int ((rd_cl tx n pp nu mo jo vo re).2.2.2.2.1), .int ((rd_cl tx n pp nu mo jo vo re).2.2.2.2.2.1), .int (bo_I ((rd_cl tx n pp nu mo jo vo re).2.2.2.2.2.2))])), (sa, .inl (cI, 120, .inl tx))] : va_W) = [(rd, .inr (3, [.ref sa, .int (nI n), .int (nI ((rd_end tx n ((((rd_mon tx n 13 0 ((pp + 1 + sv_len 4) + 1) nu mo).2.1) + 1 + sv_len 6) + 1)) + 1 + sv_len 7)), .int (nI (rd_val tx n ((((rd_mon tx n 13 0 ((pp + 1 + sv_len 4) + 1) nu mo).2.1) + 1 + sv_len 6) + 1))), .int st, .int ((rd_mon tx n 13 0 ((pp + 1 + sv_len 4) + 1) nu mo).2.2.2), .int jo, .int (nI (rd_val tx n ((((rd_mon tx n 13 0 ((pp + 1 + sv_len 4) + 1) nu mo).2.1) + 1 + sv_len 6) + 1))), .int 1])), (sa, .inl (cI, 120, .inl tx))] := by rw [z9] <;> rfl
                  exact W.zret (v := 1) hx hb hr rfl (fun t ht hW => ⟨⟨_, (), rfl, q9, by rw [ht, e9]; exact hP, va_K.moved hW.alike hK, by rw [e9]; exact hD⟩, hS.F ht⟩) hS.2.2 d_Rd_takeClauses_108
        · rw [hb_28] at hP hD
          have hP : va_P (dC, dI) ga_cl [(rd, .inr (3, [.ref sa, .int (nI n), .int (nI (((rd_mon tx n 13 0 ((pp + 1 + sv_len 4) + 1) nu mo).2.1) + 1 + sv_len 5)), .int ((rd_mon tx n 13 0 ((pp + 1 + sv_len 4) + 1) nu mo).2.2.1), .int st, .int ((rd_mon tx n 13 0 ((pp + 1 + sv_len 4) + 1) nu mo).2.2.2), .int jo, .int vo, .int (bo_I re)])), (sa, .inl (cI, 120, .inl tx))] H := hP
          have hD : va_D A [(rd, .inr (3, [.ref sa, .int (nI n), .int (nI (((rd_mon tx n 13 0 ((pp + 1 + sv_len 4) + 1) nu mo).2.1) + 1 + sv_len 5)), .int ((rd_mon tx n 13 0 ((pp + 1 + sv_len 4) + 1) nu mo).2.2.1), .int st, .int ((rd_mon tx n 13 0 ((pp + 1 + sv_len 4) + 1) nu mo).2.2.2), .int jo, .int vo, .int (bo_I re)])), (sa, .inl (cI, 120, .inl tx))] := hD
          have l_28 := rd_next_le hb_28
          refine lv_if_eq (tgt := 61) hx hb d_Rd_takeClauses_31 (by decide) (fun z9 => absurd z9 (by decide)) (fun _ => ?_)
          refine lv_aload_n hx hb d_Rd_takeClauses_34 rfl (lv_at hl 0 rfl) ?_
          refine wy_calli (wr := []) (w1 := [(rd, .inr (3, [.ref sa, .int (nI n), .int (nI (cond (rd_sp tx n (((rd_mon tx n 13 0 ((pp + 1 + sv_len 4) + 1) nu mo).2.1) + 1 + sv_len 5)) ((((rd_mon tx n 13 0 ((pp + 1 + sv_len 4) + 1) nu mo).2.1) + 1 + sv_len 5) + 1) (((rd_mon tx n 13 0 ((pp + 1 + sv_len 4) + 1) nu mo).2.1) + 1 + sv_len 5))), .int ((rd_mon tx n 13 0 ((pp + 1 + sv_len 4) + 1) nu mo).2.2.1), .int st, .int ((rd_mon tx n 13 0 ((pp + 1 + sv_len 4) + 1) nu mo).2.2.2), .int jo, .int vo, .int (bo_I re)])), (sa, .inl (cI, 120, .inl tx))]) (va_runV (As := []) (rest := []) ⟨hx, hb, hml, hown, hts⟩ (c_Rd_takeSpace l dC dI H.size rd sa cI tx n (((rd_mon tx n 13 0 ((pp + 1 + sv_len 4) + 1) nu mo).2.1) + 1 + sv_len 5) ((rd_mon tx n 13 0 ((pp + 1 + sv_len 4) + 1) nu mo).2.2.1) st ((rd_mon tx n 13 0 ((pp + 1 + sv_len 4) + 1) nu mo).2.2.2) jo vo re (by omega) (by omega)) (cwV 0 hts (ga_V kw_254 kw_256 kw_3 kw_35 (ga_in kw_257)) rfl rfl rfl (by decide +kernel) ⟨Nat.le_of_ble_eq_true rfl, Nat.le_of_ble_eq_true rfl⟩) (wy_mreV 0 (hP.sub (ws' := [(rd, .inr (3, [.ref sa, .int (nI n), .int (nI (((rd_mon tx n 13 0 ((pp + 1 + sv_len 4) + 1) nu mo).2.1) + 1 + sv_len 5)), .int ((rd_mon tx n 13 0 ((pp + 1 + sv_len 4) + 1) nu mo).2.2.1), .int st, .int ((rd_mon tx n 13 0 ((pp + 1 + sv_len 4) + 1) nu mo).2.2.2), .int jo, .int vo, .int (bo_I re)])), (sa, .inl (cI, 120, .inl tx))]) [0, 1] rfl) (hK.sub (tys' := [(cI, .int)]) [0] rfl) hN (hD.sub (ws' := [(rd, .inr (3, [.ref sa, .int (nI n), .int (nI (((rd_mon tx n 13 0 ((pp + 1 + sv_len 4) + 1) nu mo).2.1) + 1 + sv_len 5)), .int ((rd_mon tx n 13 0 ((pp + 1 + sv_len 4) + 1) nu mo).2.2.1), .int st, .int ((rd_mon tx n 13 0 ((pp + 1 + sv_len 4) + 1) nu mo).2.2.2), .int jo, .int vo, .int (bo_I re)])), (sa, .inl (cI, 120, .inl tx))]) [0, 1] (by decide) rfl) (ci := 3) rfl rfl rfl) rfl rfl hl.1 rfl (lv_room (Nat.le_of_ble_eq_true rfl)) d_Rd_takeClauses_35 ⟨Nat.le_of_ble_eq_true rfl, Nat.le_of_ble_eq_true rfl⟩) hP hD hS hA [0, 1] [] rfl rfl (by decide) (by decide) (fun H locs hP hD hS => ?_)
          have hP := hP.sub (ws' := [(rd, .inr (3, [.ref sa, .int (nI n), .int (nI (cond (rd_sp tx n (((rd_mon tx n 13 0 ((pp + 1 + sv_len 4) + 1) nu mo).2.1) + 1 + sv_len 5)) ((((rd_mon tx n 13 0 ((pp + 1 + sv_len 4) + 1) nu mo).2.1) + 1 + sv_len 5) + 1) (((rd_mon tx n 13 0 ((pp + 1 + sv_len 4) + 1) nu mo).2.1) + 1 + sv_len 5))), .int ((rd_mon tx n 13 0 ((pp + 1 + sv_len 4) + 1) nu mo).2.2.1), .int st, .int ((rd_mon tx n 13 0 ((pp + 1 + sv_len 4) + 1) nu mo).2.2.2), .int jo, .int vo, .int (bo_I re)])), (sa, .inl (cI, 120, .inl tx))]) [0, 1] rfl
          have hD := hD.sub (ws' := [(rd, .inr (3, [.ref sa, .int (nI n), .int (nI (cond (rd_sp tx n (((rd_mon tx n 13 0 ((pp + 1 + sv_len 4) + 1) nu mo).2.1) + 1 + sv_len 5)) ((((rd_mon tx n 13 0 ((pp + 1 + sv_len 4) + 1) nu mo).2.1) + 1 + sv_len 5) + 1) (((rd_mon tx n 13 0 ((pp + 1 + sv_len 4) + 1) nu mo).2.1) + 1 + sv_len 5))), .int ((rd_mon tx n 13 0 ((pp + 1 + sv_len 4) + 1) nu mo).2.2.1), .int st, .int ((rd_mon tx n 13 0 ((pp + 1 + sv_len 4) + 1) nu mo).2.2.2), .int jo, .int vo, .int (bo_I re)])), (sa, .inl (cI, 120, .inl tx))]) [0, 1] (by decide) rfl
          rcases hb_35 : rd_sp tx n (((rd_mon tx n 13 0 ((pp + 1 + sv_len 4) + 1) nu mo).2.1) + 1 + sv_len 5) with _ | _
          · rw [hb_35] at hP hD
            have hP : va_P (dC, dI) ga_cl [(rd, .inr (3, [.ref sa, .int (nI n), .int (nI (((rd_mon tx n 13 0 ((pp + 1 + sv_len 4) + 1) nu mo).2.1) + 1 + sv_len 5)), .int ((rd_mon tx n 13 0 ((pp + 1 + sv_len 4) + 1) nu mo).2.2.1), .int st, .int ((rd_mon tx n 13 0 ((pp + 1 + sv_len 4) + 1) nu mo).2.2.2), .int jo, .int vo, .int (bo_I re)])), (sa, .inl (cI, 120, .inl tx))] H := hP
            have hD : va_D A [(rd, .inr (3, [.ref sa, .int (nI n), .int (nI (((rd_mon tx n 13 0 ((pp + 1 + sv_len 4) + 1) nu mo).2.1) + 1 + sv_len 5)), .int ((rd_mon tx n 13 0 ((pp + 1 + sv_len 4) + 1) nu mo).2.2.1), .int st, .int ((rd_mon tx n 13 0 ((pp + 1 + sv_len 4) + 1) nu mo).2.2.2), .int jo, .int vo, .int (bo_I re)])), (sa, .inl (cI, 120, .inl tx))] := hD
            refine lv_if_eq (tgt := 51) hx hb d_Rd_takeClauses_38 (by decide) (fun _ => ?_) (fun z9 => absurd z9 (by decide))
            refine lv_iconst (v := 0) hx hb d_Rd_takeClauses_51 (by decide) ?_
            rw [hQ]
            have z9 : rd_cl tx n pp nu mo jo vo re = (false, ((rd_mon tx n 13 0 ((pp + 1 + sv_len 4) + 1) nu mo).2.1) + 1 + sv_len 5, ((rd_mon tx n 13 0 ((pp + 1 + sv_len 4) + 1) nu mo).2.2.1), ((rd_mon tx n 13 0 ((pp + 1 + sv_len 4) + 1) nu mo).2.2.2), jo, vo, re) := by simp only [rd_cl, rd_c1, rd_c2, rd_c3, hb_3, hb_10, hb_17, hb_28, hb_35, cond_true, cond_false]
            have q9 : (0 : Int32) = bo_I ((rd_cl tx n pp nu mo jo vo re).1) := by rw [z9]; rfl
            have e9 : ([(rd, .inr (3, [.ref sa, .int (nI n), .int (nI ((rd_cl tx n pp nu mo jo vo re).2.1)), .int ((rd_cl tx n pp nu mo jo vo re).2.2.1), .int st, .int ((rd_cl tx n pp nu mo jo vo re).2.2.2.1), .int ((rd_cl tx n pp nu mo jo vo re).2.2.2.2.1), .int ((rd_cl tx n pp nu mo jo vo re).2.2.2.2.2.1), .int (bo_I ((rd_cl tx n pp nu mo jo vo re).2.2.2.2.2.2))])), (sa, .inl (cI, 120, .inl tx))] : va_W) = [(rd, .inr (3, [.ref sa, .int (nI n), .int (nI (((rd_mon tx n 13 0 ((pp + 1 + sv_len 4) + 1) nu mo).2.1) + 1 + sv_len 5)), .int ((rd_mon tx n 13 0 ((pp + 1 + sv_len 4) + 1) nu mo).2.2.1), .int st, .int ((rd_mon tx n 13 0 ((pp + 1 + sv_len 4) + 1) nu mo).2.2.2), .int jo, .int vo, .int (bo_I re)])), (sa, .inl (cI, 120, .inl tx))] := by rw [z9] <;> rfl
            exact W.zret (v := 0) hx hb hr rfl (fun t ht hW => ⟨⟨_, (), rfl, q9, by rw [ht, e9]; exact hP, va_K.moved hW.alike hK, by rw [e9]; exact hD⟩, hS.F ht⟩) hS.2.2 d_Rd_takeClauses_52
          · rw [hb_35] at hP hD
            have hP : va_P (dC, dI) ga_cl [(rd, .inr (3, [.ref sa, .int (nI n), .int (nI ((((rd_mon tx n 13 0 ((pp + 1 + sv_len 4) + 1) nu mo).2.1) + 1 + sv_len 5) + 1)), .int ((rd_mon tx n 13 0 ((pp + 1 + sv_len 4) + 1) nu mo).2.2.1), .int st, .int ((rd_mon tx n 13 0 ((pp + 1 + sv_len 4) + 1) nu mo).2.2.2), .int jo, .int vo, .int (bo_I re)])), (sa, .inl (cI, 120, .inl tx))] H := hP
            have hD : va_D A [(rd, .inr (3, [.ref sa, .int (nI n), .int (nI ((((rd_mon tx n 13 0 ((pp + 1 + sv_len 4) + 1) nu mo).2.1) + 1 + sv_len 5) + 1)), .int ((rd_mon tx n 13 0 ((pp + 1 + sv_len 4) + 1) nu mo).2.2.1), .int st, .int ((rd_mon tx n 13 0 ((pp + 1 + sv_len 4) + 1) nu mo).2.2.2), .int jo, .int vo, .int (bo_I re)])), (sa, .inl (cI, 120, .inl tx))] := hD
            have l_35 := rd_sp_lt hb_35
            refine lv_if_eq (tgt := 51) hx hb d_Rd_takeClauses_38 (by decide) (fun z9 => absurd z9 (by decide)) (fun _ => ?_)
            refine lv_aload_n hx hb d_Rd_takeClauses_41 rfl (lv_at hl 0 rfl) ?_
            refine lv_iconst (v := 2) hx hb d_Rd_takeClauses_42 (by decide) ?_
            refine lv_bipush (v := 99) hx hb d_Rd_takeClauses_43 (by decide) ?_
            refine wy_calli (wr := []) (w1 := [(rd, .inr (3, [.ref sa, .int (nI n), .int (nI (cond (rd_num tx n 2 99 ((((rd_mon tx n 13 0 ((pp + 1 + sv_len 4) + 1) nu mo).2.1) + 1 + sv_len 5) + 1)) (rd_end tx n ((((rd_mon tx n 13 0 ((pp + 1 + sv_len 4) + 1) nu mo).2.1) + 1 + sv_len 5) + 1)) ((((rd_mon tx n 13 0 ((pp + 1 + sv_len 4) + 1) nu mo).2.1) + 1 + sv_len 5) + 1))), .int (cond (rd_num tx n 2 99 ((((rd_mon tx n 13 0 ((pp + 1 + sv_len 4) + 1) nu mo).2.1) + 1 + sv_len 5) + 1)) (nI (rd_val tx n ((((rd_mon tx n 13 0 ((pp + 1 + sv_len 4) + 1) nu mo).2.1) + 1 + sv_len 5) + 1))) ((rd_mon tx n 13 0 ((pp + 1 + sv_len 4) + 1) nu mo).2.2.1)), .int st, .int ((rd_mon tx n 13 0 ((pp + 1 + sv_len 4) + 1) nu mo).2.2.2), .int jo, .int vo, .int (bo_I re)])), (sa, .inl (cI, 120, .inl tx))]) (va_runV (As := [.int 2, .int 99]) (rest := []) ⟨hx, hb, hml, hown, hts⟩ (c_Rd_takeNumber l dC dI H.size rd sa cI tx n ((((rd_mon tx n 13 0 ((pp + 1 + sv_len 4) + 1) nu mo).2.1) + 1 + sv_len 5) + 1) ((rd_mon tx n 13 0 ((pp + 1 + sv_len 4) + 1) nu mo).2.2.1) st ((rd_mon tx n 13 0 ((pp + 1 + sv_len 4) + 1) nu mo).2.2.2) jo vo re 2 99 (by omega) (by omega) (by omega) (by omega)) (cwV 2 hts (ga_V kw_262 kw_264 kw_5 kw_35 (ga_in kw_265)) rfl rfl rfl (by decide +kernel) ⟨Nat.le_of_ble_eq_true rfl, Nat.le_of_ble_eq_true rfl⟩) (wy_mreV 0 (hP.sub (ws' := [(rd, .inr (3, [.ref sa, .int (nI n), .int (nI ((((rd_mon tx n 13 0 ((pp + 1 + sv_len 4) + 1) nu mo).2.1) + 1 + sv_len 5) + 1)), .int ((rd_mon tx n 13 0 ((pp + 1 + sv_len 4) + 1) nu mo).2.2.1), .int st, .int ((rd_mon tx n 13 0 ((pp + 1 + sv_len 4) + 1) nu mo).2.2.2), .int jo, .int vo, .int (bo_I re)])), (sa, .inl (cI, 120, .inl tx))]) [0, 1] rfl) (hK.sub (tys' := [(cI, .int)]) [0] rfl) hN (hD.sub (ws' := [(rd, .inr (3, [.ref sa, .int (nI n), .int (nI ((((rd_mon tx n 13 0 ((pp + 1 + sv_len 4) + 1) nu mo).2.1) + 1 + sv_len 5) + 1)), .int ((rd_mon tx n 13 0 ((pp + 1 + sv_len 4) + 1) nu mo).2.2.1), .int st, .int ((rd_mon tx n 13 0 ((pp + 1 + sv_len 4) + 1) nu mo).2.2.2), .int jo, .int vo, .int (bo_I re)])), (sa, .inl (cI, 120, .inl tx))]) [0, 1] (by decide) rfl) (ci := 3) rfl rfl rfl) rfl rfl hl.1 rfl (lv_room (Nat.le_of_ble_eq_true rfl)) d_Rd_takeClauses_45 ⟨Nat.le_of_ble_eq_true rfl, Nat.le_of_ble_eq_true rfl⟩) hP hD hS hA [0, 1] [] rfl rfl (by decide) (by decide) (fun H locs hP hD hS => ?_)
            have hP := hP.sub (ws' := [(rd, .inr (3, [.ref sa, .int (nI n), .int (nI (cond (rd_num tx n 2 99 ((((rd_mon tx n 13 0 ((pp + 1 + sv_len 4) + 1) nu mo).2.1) + 1 + sv_len 5) + 1)) (rd_end tx n ((((rd_mon tx n 13 0 ((pp + 1 + sv_len 4) + 1) nu mo).2.1) + 1 + sv_len 5) + 1)) ((((rd_mon tx n 13 0 ((pp + 1 + sv_len 4) + 1) nu mo).2.1) + 1 + sv_len 5) + 1))), .int (cond (rd_num tx n 2 99 ((((rd_mon tx n 13 0 ((pp + 1 + sv_len 4) + 1) nu mo).2.1) + 1 + sv_len 5) + 1)) (nI (rd_val tx n ((((rd_mon tx n 13 0 ((pp + 1 + sv_len 4) + 1) nu mo).2.1) + 1 + sv_len 5) + 1))) ((rd_mon tx n 13 0 ((pp + 1 + sv_len 4) + 1) nu mo).2.2.1)), .int st, .int ((rd_mon tx n 13 0 ((pp + 1 + sv_len 4) + 1) nu mo).2.2.2), .int jo, .int vo, .int (bo_I re)])), (sa, .inl (cI, 120, .inl tx))]) [0, 1] rfl
            have hD := hD.sub (ws' := [(rd, .inr (3, [.ref sa, .int (nI n), .int (nI (cond (rd_num tx n 2 99 ((((rd_mon tx n 13 0 ((pp + 1 + sv_len 4) + 1) nu mo).2.1) + 1 + sv_len 5) + 1)) (rd_end tx n ((((rd_mon tx n 13 0 ((pp + 1 + sv_len 4) + 1) nu mo).2.1) + 1 + sv_len 5) + 1)) ((((rd_mon tx n 13 0 ((pp + 1 + sv_len 4) + 1) nu mo).2.1) + 1 + sv_len 5) + 1))), .int (cond (rd_num tx n 2 99 ((((rd_mon tx n 13 0 ((pp + 1 + sv_len 4) + 1) nu mo).2.1) + 1 + sv_len 5) + 1)) (nI (rd_val tx n ((((rd_mon tx n 13 0 ((pp + 1 + sv_len 4) + 1) nu mo).2.1) + 1 + sv_len 5) + 1))) ((rd_mon tx n 13 0 ((pp + 1 + sv_len 4) + 1) nu mo).2.2.1)), .int st, .int ((rd_mon tx n 13 0 ((pp + 1 + sv_len 4) + 1) nu mo).2.2.2), .int jo, .int vo, .int (bo_I re)])), (sa, .inl (cI, 120, .inl tx))]) [0, 1] (by decide) rfl
            rcases hb_45 : rd_num tx n 2 99 ((((rd_mon tx n 13 0 ((pp + 1 + sv_len 4) + 1) nu mo).2.1) + 1 + sv_len 5) + 1) with _ | _
            · rw [hb_45] at hP hD
              have hP : va_P (dC, dI) ga_cl [(rd, .inr (3, [.ref sa, .int (nI n), .int (nI ((((rd_mon tx n 13 0 ((pp + 1 + sv_len 4) + 1) nu mo).2.1) + 1 + sv_len 5) + 1)), .int ((rd_mon tx n 13 0 ((pp + 1 + sv_len 4) + 1) nu mo).2.2.1), .int st, .int ((rd_mon tx n 13 0 ((pp + 1 + sv_len 4) + 1) nu mo).2.2.2), .int jo, .int vo, .int (bo_I re)])), (sa, .inl (cI, 120, .inl tx))] H := hP
              have hD : va_D A [(rd, .inr (3, [.ref sa, .int (nI n), .int (nI ((((rd_mon tx n 13 0 ((pp + 1 + sv_len 4) + 1) nu mo).2.1) + 1 + sv_len 5) + 1)), .int ((rd_mon tx n 13 0 ((pp + 1 + sv_len 4) + 1) nu mo).2.2.1), .int st, .int ((rd_mon tx n 13 0 ((pp + 1 + sv_len 4) + 1) nu mo).2.2.2), .int jo, .int vo, .int (bo_I re)])), (sa, .inl (cI, 120, .inl tx))] := hD
              refine lv_if_ne (tgt := 53) hx hb d_Rd_takeClauses_48 (by decide) (fun z9 => absurd z9 (by decide)) (fun _ => ?_)
              refine lv_iconst (v := 0) hx hb d_Rd_takeClauses_51 (by decide) ?_
              rw [hQ]
              have z9 : rd_cl tx n pp nu mo jo vo re = (false, (((rd_mon tx n 13 0 ((pp + 1 + sv_len 4) + 1) nu mo).2.1) + 1 + sv_len 5) + 1, ((rd_mon tx n 13 0 ((pp + 1 + sv_len 4) + 1) nu mo).2.2.1), ((rd_mon tx n 13 0 ((pp + 1 + sv_len 4) + 1) nu mo).2.2.2), jo, vo, re) := by simp only [rd_cl, rd_c1, rd_c2, rd_c3, hb_3, hb_10, hb_17, hb_28, hb_35, hb_45, cond_true, cond_false]
              have q9 : (0 : Int32) = bo_I ((rd_cl tx n pp nu mo jo vo re).1) := by rw [z9]; rfl
              have e9 : ([(rd, .inr (3, [.ref sa, .int (nI n), .int (nI ((rd_cl tx n pp nu mo jo vo re).2.1)), .int ((rd_cl tx n pp nu mo jo vo re).2.2.1), .int st, .int ((rd_cl tx n pp nu mo jo vo re).2.2.2.1), .int ((rd_cl tx n pp nu mo jo vo re).2.2.2.2.1), .int ((rd_cl tx n pp nu mo jo vo re).2.2.2.2.2.1), .int (bo_I ((rd_cl tx n pp nu mo jo vo re).2.2.2.2.2.2))])), (sa, .inl (cI, 120, .inl tx))] : va_W) = [(rd, .inr (3, [.ref sa, .int (nI n), .int (nI ((((rd_mon tx n 13 0 ((pp + 1 + sv_len 4) + 1) nu mo).2.1) + 1 + sv_len 5) + 1)), .int ((rd_mon tx n 13 0 ((pp + 1 + sv_len 4) + 1) nu mo).2.2.1), .int st, .int ((rd_mon tx n 13 0 ((pp + 1 + sv_len 4) + 1) nu mo).2.2.2), .int jo, .int vo, .int (bo_I re)])), (sa, .inl (cI, 120, .inl tx))] := by rw [z9] <;> rfl
              exact W.zret (v := 0) hx hb hr rfl (fun t ht hW => ⟨⟨_, (), rfl, q9, by rw [ht, e9]; exact hP, va_K.moved hW.alike hK, by rw [e9]; exact hD⟩, hS.F ht⟩) hS.2.2 d_Rd_takeClauses_52
            · rw [hb_45] at hP hD
              have hP : va_P (dC, dI) ga_cl [(rd, .inr (3, [.ref sa, .int (nI n), .int (nI (rd_end tx n ((((rd_mon tx n 13 0 ((pp + 1 + sv_len 4) + 1) nu mo).2.1) + 1 + sv_len 5) + 1))), .int (nI (rd_val tx n ((((rd_mon tx n 13 0 ((pp + 1 + sv_len 4) + 1) nu mo).2.1) + 1 + sv_len 5) + 1))), .int st, .int ((rd_mon tx n 13 0 ((pp + 1 + sv_len 4) + 1) nu mo).2.2.2), .int jo, .int vo, .int (bo_I re)])), (sa, .inl (cI, 120, .inl tx))] H := hP
              have hD : va_D A [(rd, .inr (3, [.ref sa, .int (nI n), .int (nI (rd_end tx n ((((rd_mon tx n 13 0 ((pp + 1 + sv_len 4) + 1) nu mo).2.1) + 1 + sv_len 5) + 1))), .int (nI (rd_val tx n ((((rd_mon tx n 13 0 ((pp + 1 + sv_len 4) + 1) nu mo).2.1) + 1 + sv_len 5) + 1))), .int st, .int ((rd_mon tx n 13 0 ((pp + 1 + sv_len 4) + 1) nu mo).2.2.2), .int jo, .int vo, .int (bo_I re)])), (sa, .inl (cI, 120, .inl tx))] := hD
              have l_45 := rd_end_le (tx := tx) (n := n) (p := _ + 1) l_35
              refine lv_if_ne (tgt := 53) hx hb d_Rd_takeClauses_48 (by decide) (fun _ => ?_) (fun z9 => absurd z9 (by decide))
              refine lv_aload_n hx hb d_Rd_takeClauses_53 rfl (lv_at hl 0 rfl) ?_
              refine lv_aload_n hx hb d_Rd_takeClauses_54 rfl (lv_at hl 0 rfl) ?_
              refine va_get (D := (dC, dI)) (ci := 3) (v := .int (nI (rd_val tx n ((((rd_mon tx n 13 0 ((pp + 1 + sv_len 4) + 1) nu mo).2.1) + 1 + sv_len 5) + 1)))) (C := "PatternText$PatternReader") (T := F_Rd) (N := 9) hx hb hts iw_Rd hown hK hP 0 rfl rfl 3 (by decide) (hts _ kw_68) (fun _ h9 => h9) rfl d_Rd_takeClauses_55 ?_
              refine va_put (D := (dC, dI)) (ci := 3) (v := .int (nI (rd_val tx n ((((rd_mon tx n 13 0 ((pp + 1 + sv_len 4) + 1) nu mo).2.1) + 1 + sv_len 5) + 1)))) (ty := .int) (C := "PatternText$PatternReader") (T := F_Rd) (N := 9) hx hb hts iw_Rd t_Rd t_Rd_ok n_Rd hown hK hP hD hS 0 rfl rfl 6 (by decide) (hts _ kw_71) (fun _ h9 => h9) rfl (by decide +kernel) rfl rfl (Nat.le_of_ble_eq_true rfl) d_Rd_takeClauses_58 (fun H locs hP hD hS => ?_)
              have hP : va_P (dC, dI) ga_cl [(rd, .inr (3, [.ref sa, .int (nI n), .int (nI (rd_end tx n ((((rd_mon tx n 13 0 ((pp + 1 + sv_len 4) + 1) nu mo).2.1) + 1 + sv_len 5) + 1))), .int (nI (rd_val tx n ((((rd_mon tx n 13 0 ((pp + 1 + sv_len 4) + 1) nu mo).2.1) + 1 + sv_len 5) + 1))), .int st, .int ((rd_mon tx n 13 0 ((pp + 1 + sv_len 4) + 1) nu mo).2.2.2), .int (nI (rd_val tx n ((((rd_mon tx n 13 0 ((pp + 1 + sv_len 4) + 1) nu mo).2.1) + 1 + sv_len 5) + 1))), .int vo, .int (bo_I re)])), (sa, .inl (cI, 120, .inl tx))] H := hP
              have hD : va_D A [(rd, .inr (3, [.ref sa, .int (nI n), .int (nI (rd_end tx n ((((rd_mon tx n 13 0 ((pp + 1 + sv_len 4) + 1) nu mo).2.1) + 1 + sv_len 5) + 1))), .int (nI (rd_val tx n ((((rd_mon tx n 13 0 ((pp + 1 + sv_len 4) + 1) nu mo).2.1) + 1 + sv_len 5) + 1))), .int st, .int ((rd_mon tx n 13 0 ((pp + 1 + sv_len 4) + 1) nu mo).2.2.2), .int (nI (rd_val tx n ((((rd_mon tx n 13 0 ((pp + 1 + sv_len 4) + 1) nu mo).2.1) + 1 + sv_len 5) + 1))), .int vo, .int (bo_I re)])), (sa, .inl (cI, 120, .inl tx))] := hD
              refine lv_aload_n hx hb d_Rd_takeClauses_61 rfl (lv_at hl 0 rfl) ?_
              refine va_ldcS hx hb hown (hE.2.2 6 (by decide)).2 d_Rd_takeClauses_62 ?_
              have hF_64 := va_free (wc := [(rd, .inr (3, [.ref sa, .int (nI n), .int (nI (rd_end tx n ((((rd_mon tx n 13 0 ((pp + 1 + sv_len 4) + 1) nu mo).2.1) + 1 + sv_len 5) + 1))), .int (nI (rd_val tx n ((((rd_mon tx n 13 0 ((pp + 1 + sv_len 4) + 1) nu mo).2.1) + 1 + sv_len 5) + 1))), .int st, .int ((rd_mon tx n 13 0 ((pp + 1 + sv_len 4) + 1) nu mo).2.2.2), .int (nI (rd_val tx n ((((rd_mon tx n 13 0 ((pp + 1 + sv_len 4) + 1) nu mo).2.1) + 1 + sv_len 5) + 1))), .int vo, .int (bo_I re)])), (sa, .inl (cI, 120, .inl tx))]) hD hS hA [0, 1] rfl
              refine wy_calli (wr := []) (w1 := [(rd, .inr (3, [.ref sa, .int (nI n), .int (nI (cond (rd_next tx n (rd_end tx n ((((rd_mon tx n 13 0 ((pp + 1 + sv_len 4) + 1) nu mo).2.1) + 1 + sv_len 5) + 1)) (sv_w 6) (sv_len 6)) ((rd_end tx n ((((rd_mon tx n 13 0 ((pp + 1 + sv_len 4) + 1) nu mo).2.1) + 1 + sv_len 5) + 1)) + 1 + sv_len 6) (rd_end tx n ((((rd_mon tx n 13 0 ((pp + 1 + sv_len 4) + 1) nu mo).2.1) + 1 + sv_len 5) + 1)))), .int (nI (rd_val tx n ((((rd_mon tx n 13 0 ((pp + 1 + sv_len 4) + 1) nu mo).2.1) + 1 + sv_len 5) + 1))), .int st, .int ((rd_mon tx n 13 0 ((pp + 1 + sv_len 4) + 1) nu mo).2.2.2), .int (nI (rd_val tx n ((((rd_mon tx n 13 0 ((pp + 1 + sv_len 4) + 1) nu mo).2.1) + 1 + sv_len 5) + 1))), .int vo, .int (bo_I re)])), (sa, .inl (cI, 120, .inl tx))]) (va_runV (As := [.ref (ad 6)]) (rest := []) ⟨hx, hb, hml, hown, hts⟩ (c_Rd_takeNextWord l dC dI H.size ad av rd sa cI tx n (rd_end tx n ((((rd_mon tx n 13 0 ((pp + 1 + sv_len 4) + 1) nu mo).2.1) + 1 + sv_len 5) + 1)) (nI (rd_val tx n ((((rd_mon tx n 13 0 ((pp + 1 + sv_len 4) + 1) nu mo).2.1) + 1 + sv_len 5) + 1))) st ((rd_mon tx n 13 0 ((pp + 1 + sv_len 4) + 1) nu mo).2.2.2) (nI (rd_val tx n ((((rd_mon tx n 13 0 ((pp + 1 + sv_len 4) + 1) nu mo).2.1) + 1 + sv_len 5) + 1))) vo re 6 (by omega) (by omega) (by decide)) (cwV 1 hts (ga_V kw_280 kw_282 kw_7 kw_35 (ga_in kw_283)) rfl rfl rfl (by decide +kernel) ⟨Nat.le_of_ble_eq_true rfl, Nat.le_of_ble_eq_true rfl⟩) (wy_mreVE 0 (hP.sub (ws' := [(rd, .inr (3, [.ref sa, .int (nI n), .int (nI (rd_end tx n ((((rd_mon tx n 13 0 ((pp + 1 + sv_len 4) + 1) nu mo).2.1) + 1 + sv_len 5) + 1))), .int (nI (rd_val tx n ((((rd_mon tx n 13 0 ((pp + 1 + sv_len 4) + 1) nu mo).2.1) + 1 + sv_len 5) + 1))), .int st, .int ((rd_mon tx n 13 0 ((pp + 1 + sv_len 4) + 1) nu mo).2.2.2), .int (nI (rd_val tx n ((((rd_mon tx n 13 0 ((pp + 1 + sv_len 4) + 1) nu mo).2.1) + 1 + sv_len 5) + 1))), .int vo, .int (bo_I re)])), (sa, .inl (cI, 120, .inl tx))]) [0, 1] rfl) (hK.sub (tys' := [(cI, .int)]) [0] rfl) hN (hD.sub (ws' := [(rd, .inr (3, [.ref sa, .int (nI n), .int (nI (rd_end tx n ((((rd_mon tx n 13 0 ((pp + 1 + sv_len 4) + 1) nu mo).2.1) + 1 + sv_len 5) + 1))), .int (nI (rd_val tx n ((((rd_mon tx n 13 0 ((pp + 1 + sv_len 4) + 1) nu mo).2.1) + 1 + sv_len 5) + 1))), .int st, .int ((rd_mon tx n 13 0 ((pp + 1 + sv_len 4) + 1) nu mo).2.2.2), .int (nI (rd_val tx n ((((rd_mon tx n 13 0 ((pp + 1 + sv_len 4) + 1) nu mo).2.1) + 1 + sv_len 5) + 1))), .int vo, .int (bo_I re)])), (sa, .inl (cI, 120, .inl tx))]) [0, 1] (by decide) rfl) hE hS hF_64 (ci := 3) rfl rfl rfl) rfl rfl hl.1 rfl (lv_room (Nat.le_of_ble_eq_true rfl)) d_Rd_takeClauses_64 ⟨Nat.le_of_ble_eq_true rfl, Nat.le_of_ble_eq_true rfl⟩) hP hD hS hA [0, 1] [] rfl rfl (by decide) (by decide) (fun H locs hP hD hS => ?_)
              have hP := hP.sub (ws' := [(rd, .inr (3, [.ref sa, .int (nI n), .int (nI (cond (rd_next tx n (rd_end tx n ((((rd_mon tx n 13 0 ((pp + 1 + sv_len 4) + 1) nu mo).2.1) + 1 + sv_len 5) + 1)) (sv_w 6) (sv_len 6)) ((rd_end tx n ((((rd_mon tx n 13 0 ((pp + 1 + sv_len 4) + 1) nu mo).2.1) + 1 + sv_len 5) + 1)) + 1 + sv_len 6) (rd_end tx n ((((rd_mon tx n 13 0 ((pp + 1 + sv_len 4) + 1) nu mo).2.1) + 1 + sv_len 5) + 1)))), .int (nI (rd_val tx n ((((rd_mon tx n 13 0 ((pp + 1 + sv_len 4) + 1) nu mo).2.1) + 1 + sv_len 5) + 1))), .int st, .int ((rd_mon tx n 13 0 ((pp + 1 + sv_len 4) + 1) nu mo).2.2.2), .int (nI (rd_val tx n ((((rd_mon tx n 13 0 ((pp + 1 + sv_len 4) + 1) nu mo).2.1) + 1 + sv_len 5) + 1))), .int vo, .int (bo_I re)])), (sa, .inl (cI, 120, .inl tx))]) [0, 1] rfl
              have hD := hD.sub (ws' := [(rd, .inr (3, [.ref sa, .int (nI n), .int (nI (cond (rd_next tx n (rd_end tx n ((((rd_mon tx n 13 0 ((pp + 1 + sv_len 4) + 1) nu mo).2.1) + 1 + sv_len 5) + 1)) (sv_w 6) (sv_len 6)) ((rd_end tx n ((((rd_mon tx n 13 0 ((pp + 1 + sv_len 4) + 1) nu mo).2.1) + 1 + sv_len 5) + 1)) + 1 + sv_len 6) (rd_end tx n ((((rd_mon tx n 13 0 ((pp + 1 + sv_len 4) + 1) nu mo).2.1) + 1 + sv_len 5) + 1)))), .int (nI (rd_val tx n ((((rd_mon tx n 13 0 ((pp + 1 + sv_len 4) + 1) nu mo).2.1) + 1 + sv_len 5) + 1))), .int st, .int ((rd_mon tx n 13 0 ((pp + 1 + sv_len 4) + 1) nu mo).2.2.2), .int (nI (rd_val tx n ((((rd_mon tx n 13 0 ((pp + 1 + sv_len 4) + 1) nu mo).2.1) + 1 + sv_len 5) + 1))), .int vo, .int (bo_I re)])), (sa, .inl (cI, 120, .inl tx))]) [0, 1] (by decide) rfl
              rcases hb_64 : rd_next tx n (rd_end tx n ((((rd_mon tx n 13 0 ((pp + 1 + sv_len 4) + 1) nu mo).2.1) + 1 + sv_len 5) + 1)) (sv_w 6) (sv_len 6) with _ | _
              · rw [hb_64] at hP hD
                have hP : va_P (dC, dI) ga_cl [(rd, .inr (3, [.ref sa, .int (nI n), .int (nI (rd_end tx n ((((rd_mon tx n 13 0 ((pp + 1 + sv_len 4) + 1) nu mo).2.1) + 1 + sv_len 5) + 1))), .int (nI (rd_val tx n ((((rd_mon tx n 13 0 ((pp + 1 + sv_len 4) + 1) nu mo).2.1) + 1 + sv_len 5) + 1))), .int st, .int ((rd_mon tx n 13 0 ((pp + 1 + sv_len 4) + 1) nu mo).2.2.2), .int (nI (rd_val tx n ((((rd_mon tx n 13 0 ((pp + 1 + sv_len 4) + 1) nu mo).2.1) + 1 + sv_len 5) + 1))), .int vo, .int (bo_I re)])), (sa, .inl (cI, 120, .inl tx))] H := hP
                have hD : va_D A [(rd, .inr (3, [.ref sa, .int (nI n), .int (nI (rd_end tx n ((((rd_mon tx n 13 0 ((pp + 1 + sv_len 4) + 1) nu mo).2.1) + 1 + sv_len 5) + 1))), .int (nI (rd_val tx n ((((rd_mon tx n 13 0 ((pp + 1 + sv_len 4) + 1) nu mo).2.1) + 1 + sv_len 5) + 1))), .int st, .int ((rd_mon tx n 13 0 ((pp + 1 + sv_len 4) + 1) nu mo).2.2.2), .int (nI (rd_val tx n ((((rd_mon tx n 13 0 ((pp + 1 + sv_len 4) + 1) nu mo).2.1) + 1 + sv_len 5) + 1))), .int vo, .int (bo_I re)])), (sa, .inl (cI, 120, .inl tx))] := hD
                refine lv_if_eq (tgt := 107) hx hb d_Rd_takeClauses_67 (by decide) (fun _ => ?_) (fun z9 => absurd z9 (by decide))
                refine lv_iconst (v := 1) hx hb d_Rd_takeClauses_107 (by decide) ?_
                rw [hQ]
                have z9 : rd_cl tx n pp nu mo jo vo re = (true, rd_end tx n ((((rd_mon tx n 13 0 ((pp + 1 + sv_len 4) + 1) nu mo).2.1) + 1 + sv_len 5) + 1), (nI (rd_val tx n ((((rd_mon tx n 13 0 ((pp + 1 + sv_len 4) + 1) nu mo).2.1) + 1 + sv_len 5) + 1))), ((rd_mon tx n 13 0 ((pp + 1 + sv_len 4) + 1) nu mo).2.2.2), (nI (rd_val tx n ((((rd_mon tx n 13 0 ((pp + 1 + sv_len 4) + 1) nu mo).2.1) + 1 + sv_len 5) + 1))), vo, re) := by simp only [rd_cl, rd_c1, rd_c2, rd_c3, hb_3, hb_10, hb_17, hb_28, hb_35, hb_45, hb_64, cond_true, cond_false]
                have q9 : (1 : Int32) = bo_I ((rd_cl tx n pp nu mo jo vo re).1) := by rw [z9]; rfl
                have e9 : ([(rd, .inr (3, [.ref sa, .int (nI n), .int (nI ((rd_cl tx n pp nu mo jo vo re).2.1)), .int ((rd_cl tx n pp nu mo jo vo re).2.2.1), .int st, .int ((rd_cl tx n pp nu mo jo vo re).2.2.2.1), .int ((rd_cl tx n pp nu mo jo vo re).2.2.2.2.1), .int ((rd_cl tx n pp nu mo jo vo re).2.2.2.2.2.1), .int (bo_I ((rd_cl tx n pp nu mo jo vo re).2.2.2.2.2.2))])), (sa, .inl (cI, 120, .inl tx))] : va_W) = [(rd, .inr (3, [.ref sa, .int (nI n), .int (nI (rd_end tx n ((((rd_mon tx n 13 0 ((pp + 1 + sv_len 4) + 1) nu mo).2.1) + 1 + sv_len 5) + 1))), .int (nI (rd_val tx n ((((rd_mon tx n 13 0 ((pp + 1 + sv_len 4) + 1) nu mo).2.1) + 1 + sv_len 5) + 1))), .int st, .int ((rd_mon tx n 13 0 ((pp + 1 + sv_len 4) + 1) nu mo).2.2.2), .int (nI (rd_val tx n ((((rd_mon tx n 13 0 ((pp + 1 + sv_len 4) + 1) nu mo).2.1) + 1 + sv_len 5) + 1))), .int vo, .int (bo_I re)])), (sa, .inl (cI, 120, .inl tx))] := by rw [z9] <;> rfl
                exact W.zret (v := 1) hx hb hr rfl (fun t ht hW => ⟨⟨_, (), rfl, q9, by rw [ht, e9]; exact hP, va_K.moved hW.alike hK, by rw [e9]; exact hD⟩, hS.F ht⟩) hS.2.2 d_Rd_takeClauses_108
              · rw [hb_64] at hP hD
                have hP : va_P (dC, dI) ga_cl [(rd, .inr (3, [.ref sa, .int (nI n), .int (nI ((rd_end tx n ((((rd_mon tx n 13 0 ((pp + 1 + sv_len 4) + 1) nu mo).2.1) + 1 + sv_len 5) + 1)) + 1 + sv_len 6)), .int (nI (rd_val tx n ((((rd_mon tx n 13 0 ((pp + 1 + sv_len 4) + 1) nu mo).2.1) + 1 + sv_len 5) + 1))), .int st, .int ((rd_mon tx n 13 0 ((pp + 1 + sv_len 4) + 1) nu mo).2.2.2), .int (nI (rd_val tx n ((((rd_mon tx n 13 0 ((pp + 1 + sv_len 4) + 1) nu mo).2.1) + 1 + sv_len 5) + 1))), .int vo, .int (bo_I re)])), (sa, .inl (cI, 120, .inl tx))] H := hP
                have hD : va_D A [(rd, .inr (3, [.ref sa, .int (nI n), .int (nI ((rd_end tx n ((((rd_mon tx n 13 0 ((pp + 1 + sv_len 4) + 1) nu mo).2.1) + 1 + sv_len 5) + 1)) + 1 + sv_len 6)), .int (nI (rd_val tx n ((((rd_mon tx n 13 0 ((pp + 1 + sv_len 4) + 1) nu mo).2.1) + 1 + sv_len 5) + 1))), .int st, .int ((rd_mon tx n 13 0 ((pp + 1 + sv_len 4) + 1) nu mo).2.2.2), .int (nI (rd_val tx n ((((rd_mon tx n 13 0 ((pp + 1 + sv_len 4) + 1) nu mo).2.1) + 1 + sv_len 5) + 1))), .int vo, .int (bo_I re)])), (sa, .inl (cI, 120, .inl tx))] := hD
                have l_64 := rd_next_le hb_64
                refine lv_if_eq (tgt := 107) hx hb d_Rd_takeClauses_67 (by decide) (fun z9 => absurd z9 (by decide)) (fun _ => ?_)
                refine lv_aload_n hx hb d_Rd_takeClauses_70 rfl (lv_at hl 0 rfl) ?_
                refine wy_calli (wr := []) (w1 := [(rd, .inr (3, [.ref sa, .int (nI n), .int (nI (cond (rd_sp tx n ((rd_end tx n ((((rd_mon tx n 13 0 ((pp + 1 + sv_len 4) + 1) nu mo).2.1) + 1 + sv_len 5) + 1)) + 1 + sv_len 6)) (((rd_end tx n ((((rd_mon tx n 13 0 ((pp + 1 + sv_len 4) + 1) nu mo).2.1) + 1 + sv_len 5) + 1)) + 1 + sv_len 6) + 1) ((rd_end tx n ((((rd_mon tx n 13 0 ((pp + 1 + sv_len 4) + 1) nu mo).2.1) + 1 + sv_len 5) + 1)) + 1 + sv_len 6))), .int (nI (rd_val tx n ((((rd_mon tx n 13 0 ((pp + 1 + sv_len 4) + 1) nu mo).2.1) + 1 + sv_len 5) + 1))), .int st, .int ((rd_mon tx n 13 0 ((pp + 1 + sv_len 4) + 1) nu mo).2.2.2), .int (nI (rd_val tx n ((((rd_mon tx n 13 0 ((pp + 1 + sv_len 4) + 1) nu mo).2.1) + 1 + sv_len 5) + 1))), .int vo, .int (bo_I re)])), (sa, .inl (cI, 120, .inl tx))]) (va_runV (As := []) (rest := []) ⟨hx, hb, hml, hown, hts⟩ (c_Rd_takeSpace l dC dI H.size rd sa cI tx n ((rd_end tx n ((((rd_mon tx n 13 0 ((pp + 1 + sv_len 4) + 1) nu mo).2.1) + 1 + sv_len 5) + 1)) + 1 + sv_len 6) (nI (rd_val tx n ((((rd_mon tx n 13 0 ((pp + 1 + sv_len 4) + 1) nu mo).2.1) + 1 + sv_len 5) + 1))) st ((rd_mon tx n 13 0 ((pp + 1 + sv_len 4) + 1) nu mo).2.2.2) (nI (rd_val tx n ((((rd_mon tx n 13 0 ((pp + 1 + sv_len 4) + 1) nu mo).2.1) + 1 + sv_len 5) + 1))) vo re (by omega) (by omega)) (cwV 0 hts (ga_V kw_254 kw_256 kw_3 kw_35 (ga_in kw_257)) rfl rfl rfl (by decide +kernel) ⟨Nat.le_of_ble_eq_true rfl, Nat.le_of_ble_eq_true rfl⟩) (wy_mreV 0 (hP.sub (ws' := [(rd, .inr (3, [.ref sa, .int (nI n), .int (nI ((rd_end tx n ((((rd_mon tx n 13 0 ((pp + 1 + sv_len 4) + 1) nu mo).2.1) + 1 + sv_len 5) + 1)) + 1 + sv_len 6)), .int (nI (rd_val tx n ((((rd_mon tx n 13 0 ((pp + 1 + sv_len 4) + 1) nu mo).2.1) + 1 + sv_len 5) + 1))), .int st, .int ((rd_mon tx n 13 0 ((pp + 1 + sv_len 4) + 1) nu mo).2.2.2), .int (nI (rd_val tx n ((((rd_mon tx n 13 0 ((pp + 1 + sv_len 4) + 1) nu mo).2.1) + 1 + sv_len 5) + 1))), .int vo, .int (bo_I re)])), (sa, .inl (cI, 120, .inl tx))]) [0, 1] rfl) (hK.sub (tys' := [(cI, .int)]) [0] rfl) hN (hD.sub (ws' := [(rd, .inr (3, [.ref sa, .int (nI n), .int (nI ((rd_end tx n ((((rd_mon tx n 13 0 ((pp + 1 + sv_len 4) + 1) nu mo).2.1) + 1 + sv_len 5) + 1)) + 1 + sv_len 6)), .int (nI (rd_val tx n ((((rd_mon tx n 13 0 ((pp + 1 + sv_len 4) + 1) nu mo).2.1) + 1 + sv_len 5) + 1))), .int st, .int ((rd_mon tx n 13 0 ((pp + 1 + sv_len 4) + 1) nu mo).2.2.2), .int (nI (rd_val tx n ((((rd_mon tx n 13 0 ((pp + 1 + sv_len 4) + 1) nu mo).2.1) + 1 + sv_len 5) + 1))), .int vo, .int (bo_I re)])), (sa, .inl (cI, 120, .inl tx))]) [0, 1] (by decide) rfl) (ci := 3) rfl rfl rfl) rfl rfl hl.1 rfl (lv_room (Nat.le_of_ble_eq_true rfl)) d_Rd_takeClauses_71 ⟨Nat.le_of_ble_eq_true rfl, Nat.le_of_ble_eq_true rfl⟩) hP hD hS hA [0, 1] [] rfl rfl (by decide) (by decide) (fun H locs hP hD hS => ?_)
                have hP := hP.sub (ws' := [(rd, .inr (3, [.ref sa, .int (nI n), .int (nI (cond (rd_sp tx n ((rd_end tx n ((((rd_mon tx n 13 0 ((pp + 1 + sv_len 4) + 1) nu mo).2.1) + 1 + sv_len 5) + 1)) + 1 + sv_len 6)) (((rd_end tx n ((((rd_mon tx n 13 0 ((pp + 1 + sv_len 4) + 1) nu mo).2.1) + 1 + sv_len 5) + 1)) + 1 + sv_len 6) + 1) ((rd_end tx n ((((rd_mon tx n 13 0 ((pp + 1 + sv_len 4) + 1) nu mo).2.1) + 1 + sv_len 5) + 1)) + 1 + sv_len 6))), .int (nI (rd_val tx n ((((rd_mon tx n 13 0 ((pp + 1 + sv_len 4) + 1) nu mo).2.1) + 1 + sv_len 5) + 1))), .int st, .int ((rd_mon tx n 13 0 ((pp + 1 + sv_len 4) + 1) nu mo).2.2.2), .int (nI (rd_val tx n ((((rd_mon tx n 13 0 ((pp + 1 + sv_len 4) + 1) nu mo).2.1) + 1 + sv_len 5) + 1))), .int vo, .int (bo_I re)])), (sa, .inl (cI, 120, .inl tx))]) [0, 1] rfl
                have hD := hD.sub (ws' := [(rd, .inr (3, [.ref sa, .int (nI n), .int (nI (cond (rd_sp tx n ((rd_end tx n ((((rd_mon tx n 13 0 ((pp + 1 + sv_len 4) + 1) nu mo).2.1) + 1 + sv_len 5) + 1)) + 1 + sv_len 6)) (((rd_end tx n ((((rd_mon tx n 13 0 ((pp + 1 + sv_len 4) + 1) nu mo).2.1) + 1 + sv_len 5) + 1)) + 1 + sv_len 6) + 1) ((rd_end tx n ((((rd_mon tx n 13 0 ((pp + 1 + sv_len 4) + 1) nu mo).2.1) + 1 + sv_len 5) + 1)) + 1 + sv_len 6))), .int (nI (rd_val tx n ((((rd_mon tx n 13 0 ((pp + 1 + sv_len 4) + 1) nu mo).2.1) + 1 + sv_len 5) + 1))), .int st, .int ((rd_mon tx n 13 0 ((pp + 1 + sv_len 4) + 1) nu mo).2.2.2), .int (nI (rd_val tx n ((((rd_mon tx n 13 0 ((pp + 1 + sv_len 4) + 1) nu mo).2.1) + 1 + sv_len 5) + 1))), .int vo, .int (bo_I re)])), (sa, .inl (cI, 120, .inl tx))]) [0, 1] (by decide) rfl
                rcases hb_71 : rd_sp tx n ((rd_end tx n ((((rd_mon tx n 13 0 ((pp + 1 + sv_len 4) + 1) nu mo).2.1) + 1 + sv_len 5) + 1)) + 1 + sv_len 6) with _ | _
                · rw [hb_71] at hP hD
                  have hP : va_P (dC, dI) ga_cl [(rd, .inr (3, [.ref sa, .int (nI n), .int (nI ((rd_end tx n ((((rd_mon tx n 13 0 ((pp + 1 + sv_len 4) + 1) nu mo).2.1) + 1 + sv_len 5) + 1)) + 1 + sv_len 6)), .int (nI (rd_val tx n ((((rd_mon tx n 13 0 ((pp + 1 + sv_len 4) + 1) nu mo).2.1) + 1 + sv_len 5) + 1))), .int st, .int ((rd_mon tx n 13 0 ((pp + 1 + sv_len 4) + 1) nu mo).2.2.2), .int (nI (rd_val tx n ((((rd_mon tx n 13 0 ((pp + 1 + sv_len 4) + 1) nu mo).2.1) + 1 + sv_len 5) + 1))), .int vo, .int (bo_I re)])), (sa, .inl (cI, 120, .inl tx))] H := hP
                  have hD : va_D A [(rd, .inr (3, [.ref sa, .int (nI n), .int (nI ((rd_end tx n ((((rd_mon tx n 13 0 ((pp + 1 + sv_len 4) + 1) nu mo).2.1) + 1 + sv_len 5) + 1)) + 1 + sv_len 6)), .int (nI (rd_val tx n ((((rd_mon tx n 13 0 ((pp + 1 + sv_len 4) + 1) nu mo).2.1) + 1 + sv_len 5) + 1))), .int st, .int ((rd_mon tx n 13 0 ((pp + 1 + sv_len 4) + 1) nu mo).2.2.2), .int (nI (rd_val tx n ((((rd_mon tx n 13 0 ((pp + 1 + sv_len 4) + 1) nu mo).2.1) + 1 + sv_len 5) + 1))), .int vo, .int (bo_I re)])), (sa, .inl (cI, 120, .inl tx))] := hD
                  refine lv_if_eq (tgt := 87) hx hb d_Rd_takeClauses_74 (by decide) (fun _ => ?_) (fun z9 => absurd z9 (by decide))
                  refine lv_iconst (v := 0) hx hb d_Rd_takeClauses_87 (by decide) ?_
                  rw [hQ]
                  have z9 : rd_cl tx n pp nu mo jo vo re = (false, (rd_end tx n ((((rd_mon tx n 13 0 ((pp + 1 + sv_len 4) + 1) nu mo).2.1) + 1 + sv_len 5) + 1)) + 1 + sv_len 6, (nI (rd_val tx n ((((rd_mon tx n 13 0 ((pp + 1 + sv_len 4) + 1) nu mo).2.1) + 1 + sv_len 5) + 1))), ((rd_mon tx n 13 0 ((pp + 1 + sv_len 4) + 1) nu mo).2.2.2), (nI (rd_val tx n ((((rd_mon tx n 13 0 ((pp + 1 + sv_len 4) + 1) nu mo).2.1) + 1 + sv_len 5) + 1))), vo, re) := by simp only [rd_cl, rd_c1, rd_c2, rd_c3, hb_3, hb_10, hb_17, hb_28, hb_35, hb_45, hb_64, hb_71, cond_true, cond_false]
                  have q9 : (0 : Int32) = bo_I ((rd_cl tx n pp nu mo jo vo re).1) := by rw [z9]; rfl
                  have e9 : ([(rd, .inr (3, [.ref sa, .int (nI n), .int (nI ((rd_cl tx n pp nu mo jo vo re).2.1)), .int ((rd_cl tx n pp nu mo jo vo re).2.2.1), .int st, .int ((rd_cl tx n pp nu mo jo vo re).2.2.2.1), .int ((rd_cl tx n pp nu mo jo vo re).2.2.2.2.1), .int ((rd_cl tx n pp nu mo jo vo re).2.2.2.2.2.1), .int (bo_I ((rd_cl tx n pp nu mo jo vo re).2.2.2.2.2.2))])), (sa, .inl (cI, 120, .inl tx))] : va_W) = [(rd, .inr (3, [.ref sa, .int (nI n), .int (nI ((rd_end tx n ((((rd_mon tx n 13 0 ((pp + 1 + sv_len 4) + 1) nu mo).2.1) + 1 + sv_len 5) + 1)) + 1 + sv_len 6)), .int (nI (rd_val tx n ((((rd_mon tx n 13 0 ((pp + 1 + sv_len 4) + 1) nu mo).2.1) + 1 + sv_len 5) + 1))), .int st, .int ((rd_mon tx n 13 0 ((pp + 1 + sv_len 4) + 1) nu mo).2.2.2), .int (nI (rd_val tx n ((((rd_mon tx n 13 0 ((pp + 1 + sv_len 4) + 1) nu mo).2.1) + 1 + sv_len 5) + 1))), .int vo, .int (bo_I re)])), (sa, .inl (cI, 120, .inl tx))] := by rw [z9] <;> rfl
                  exact W.zret (v := 0) hx hb hr rfl (fun t ht hW => ⟨⟨_, (), rfl, q9, by rw [ht, e9]; exact hP, va_K.moved hW.alike hK, by rw [e9]; exact hD⟩, hS.F ht⟩) hS.2.2 d_Rd_takeClauses_88
                · rw [hb_71] at hP hD
                  have hP : va_P (dC, dI) ga_cl [(rd, .inr (3, [.ref sa, .int (nI n), .int (nI (((rd_end tx n ((((rd_mon tx n 13 0 ((pp + 1 + sv_len 4) + 1) nu mo).2.1) + 1 + sv_len 5) + 1)) + 1 + sv_len 6) + 1)), .int (nI (rd_val tx n ((((rd_mon tx n 13 0 ((pp + 1 + sv_len 4) + 1) nu mo).2.1) + 1 + sv_len 5) + 1))), .int st, .int ((rd_mon tx n 13 0 ((pp + 1 + sv_len 4) + 1) nu mo).2.2.2), .int (nI (rd_val tx n ((((rd_mon tx n 13 0 ((pp + 1 + sv_len 4) + 1) nu mo).2.1) + 1 + sv_len 5) + 1))), .int vo, .int (bo_I re)])), (sa, .inl (cI, 120, .inl tx))] H := hP
                  have hD : va_D A [(rd, .inr (3, [.ref sa, .int (nI n), .int (nI (((rd_end tx n ((((rd_mon tx n 13 0 ((pp + 1 + sv_len 4) + 1) nu mo).2.1) + 1 + sv_len 5) + 1)) + 1 + sv_len 6) + 1)), .int (nI (rd_val tx n ((((rd_mon tx n 13 0 ((pp + 1 + sv_len 4) + 1) nu mo).2.1) + 1 + sv_len 5) + 1))), .int st, .int ((rd_mon tx n 13 0 ((pp + 1 + sv_len 4) + 1) nu mo).2.2.2), .int (nI (rd_val tx n ((((rd_mon tx n 13 0 ((pp + 1 + sv_len 4) + 1) nu mo).2.1) + 1 + sv_len 5) + 1))), .int vo, .int (bo_I re)])), (sa, .inl (cI, 120, .inl tx))] := hD
                  have l_71 := rd_sp_lt hb_71
                  refine lv_if_eq (tgt := 87) hx hb d_Rd_takeClauses_74 (by decide) (fun z9 => absurd z9 (by decide)) (fun _ => ?_)
                  refine lv_aload_n hx hb d_Rd_takeClauses_77 rfl (lv_at hl 0 rfl) ?_
                  refine lv_iconst (v := 1) hx hb d_Rd_takeClauses_78 (by decide) ?_
                  refine lv_bipush (v := 99) hx hb d_Rd_takeClauses_79 (by decide) ?_
                  refine wy_calli (wr := []) (w1 := [(rd, .inr (3, [.ref sa, .int (nI n), .int (nI (cond (rd_num tx n 1 99 (((rd_end tx n ((((rd_mon tx n 13 0 ((pp + 1 + sv_len 4) + 1) nu mo).2.1) + 1 + sv_len 5) + 1)) + 1 + sv_len 6) + 1)) (rd_end tx n (((rd_end tx n ((((rd_mon tx n 13 0 ((pp + 1 + sv_len 4) + 1) nu mo).2.1) + 1 + sv_len 5) + 1)) + 1 + sv_len 6) + 1)) (((rd_end tx n ((((rd_mon tx n 13 0 ((pp + 1 + sv_len 4) + 1) nu mo).2.1) + 1 + sv_len 5) + 1)) + 1 + sv_len 6) + 1))), .int (cond (rd_num tx n 1 99 (((rd_end tx n ((((rd_mon tx n 13 0 ((pp + 1 + sv_len 4) + 1) nu mo).2.1) + 1 + sv_len 5) + 1)) + 1 + sv_len 6) + 1)) (nI (rd_val tx n (((rd_end tx n ((((rd_mon tx n 13 0 ((pp + 1 + sv_len 4) + 1) nu mo).2.1) + 1 + sv_len 5) + 1)) + 1 + sv_len 6) + 1))) (nI (rd_val tx n ((((rd_mon tx n 13 0 ((pp + 1 + sv_len 4) + 1) nu mo).2.1) + 1 + sv_len 5) + 1)))), .int st, .int ((rd_mon tx n 13 0 ((pp + 1 + sv_len 4) + 1) nu mo).2.2.2), .int (nI (rd_val tx n ((((rd_mon tx n 13 0 ((pp + 1 + sv_len 4) + 1) nu mo).2.1) + 1 + sv_len 5) + 1))), .int vo, .int (bo_I re)])), (sa, .inl (cI, 120, .inl tx))]) (va_runV (As := [.int 1, .int 99]) (rest := []) ⟨hx, hb, hml, hown, hts⟩ (c_Rd_takeNumber l dC dI H.size rd sa cI tx n (((rd_end tx n ((((rd_mon tx n 13 0 ((pp + 1 + sv_len 4) + 1) nu mo).2.1) + 1 + sv_len 5) + 1)) + 1 + sv_len 6) + 1) (nI (rd_val tx n ((((rd_mon tx n 13 0 ((pp + 1 + sv_len 4) + 1) nu mo).2.1) + 1 + sv_len 5) + 1))) st ((rd_mon tx n 13 0 ((pp + 1 + sv_len 4) + 1) nu mo).2.2.2) (nI (rd_val tx n ((((rd_mon tx n 13 0 ((pp + 1 + sv_len 4) + 1) nu mo).2.1) + 1 + sv_len 5) + 1))) vo re 1 99 (by omega) (by omega) (by omega) (by omega)) (cwV 2 hts (ga_V kw_262 kw_264 kw_5 kw_35 (ga_in kw_265)) rfl rfl rfl (by decide +kernel) ⟨Nat.le_of_ble_eq_true rfl, Nat.le_of_ble_eq_true rfl⟩) (wy_mreV 0 (hP.sub (ws' := [(rd, .inr (3, [.ref sa, .int (nI n), .int (nI (((rd_end tx n ((((rd_mon tx n 13 0 ((pp + 1 + sv_len 4) + 1) nu mo).2.1) + 1 + sv_len 5) + 1)) + 1 + sv_len 6) + 1)), .int (nI (rd_val tx n ((((rd_mon tx n 13 0 ((pp + 1 + sv_len 4) + 1) nu mo).2.1) + 1 + sv_len 5) + 1))), .int st, .int ((rd_mon tx n 13 0 ((pp + 1 + sv_len 4) + 1) nu mo).2.2.2), .int (nI (rd_val tx n ((((rd_mon tx n 13 0 ((pp + 1 + sv_len 4) + 1) nu mo).2.1) + 1 + sv_len 5) + 1))), .int vo, .int (bo_I re)])), (sa, .inl (cI, 120, .inl tx))]) [0, 1] rfl) (hK.sub (tys' := [(cI, .int)]) [0] rfl) hN (hD.sub (ws' := [(rd, .inr (3, [.ref sa, .int (nI n), .int (nI (((rd_end tx n ((((rd_mon tx n 13 0 ((pp + 1 + sv_len 4) + 1) nu mo).2.1) + 1 + sv_len 5) + 1)) + 1 + sv_len 6) + 1)), .int (nI (rd_val tx n ((((rd_mon tx n 13 0 ((pp + 1 + sv_len 4) + 1) nu mo).2.1) + 1 + sv_len 5) + 1))), .int st, .int ((rd_mon tx n 13 0 ((pp + 1 + sv_len 4) + 1) nu mo).2.2.2), .int (nI (rd_val tx n ((((rd_mon tx n 13 0 ((pp + 1 + sv_len 4) + 1) nu mo).2.1) + 1 + sv_len 5) + 1))), .int vo, .int (bo_I re)])), (sa, .inl (cI, 120, .inl tx))]) [0, 1] (by decide) rfl) (ci := 3) rfl rfl rfl) rfl rfl hl.1 rfl (lv_room (Nat.le_of_ble_eq_true rfl)) d_Rd_takeClauses_81 ⟨Nat.le_of_ble_eq_true rfl, Nat.le_of_ble_eq_true rfl⟩) hP hD hS hA [0, 1] [] rfl rfl (by decide) (by decide) (fun H locs hP hD hS => ?_)
                  have hP := hP.sub (ws' := [(rd, .inr (3, [.ref sa, .int (nI n), .int (nI (cond (rd_num tx n 1 99 (((rd_end tx n ((((rd_mon tx n 13 0 ((pp + 1 + sv_len 4) + 1) nu mo).2.1) + 1 + sv_len 5) + 1)) + 1 + sv_len 6) + 1)) (rd_end tx n (((rd_end tx n ((((rd_mon tx n 13 0 ((pp + 1 + sv_len 4) + 1) nu mo).2.1) + 1 + sv_len 5) + 1)) + 1 + sv_len 6) + 1)) (((rd_end tx n ((((rd_mon tx n 13 0 ((pp + 1 + sv_len 4) + 1) nu mo).2.1) + 1 + sv_len 5) + 1)) + 1 + sv_len 6) + 1))), .int (cond (rd_num tx n 1 99 (((rd_end tx n ((((rd_mon tx n 13 0 ((pp + 1 + sv_len 4) + 1) nu mo).2.1) + 1 + sv_len 5) + 1)) + 1 + sv_len 6) + 1)) (nI (rd_val tx n (((rd_end tx n ((((rd_mon tx n 13 0 ((pp + 1 + sv_len 4) + 1) nu mo).2.1) + 1 + sv_len 5) + 1)) + 1 + sv_len 6) + 1))) (nI (rd_val tx n ((((rd_mon tx n 13 0 ((pp + 1 + sv_len 4) + 1) nu mo).2.1) + 1 + sv_len 5) + 1)))), .int st, .int ((rd_mon tx n 13 0 ((pp + 1 + sv_len 4) + 1) nu mo).2.2.2), .int (nI (rd_val tx n ((((rd_mon tx n 13 0 ((pp + 1 + sv_len 4) + 1) nu mo).2.1) + 1 + sv_len 5) + 1))), .int vo, .int (bo_I re)])), (sa, .inl (cI, 120, .inl tx))]) [0, 1] rfl
                  have hD := hD.sub (ws' := [(rd, .inr (3, [.ref sa, .int (nI n), .int (nI (cond (rd_num tx n 1 99 (((rd_end tx n ((((rd_mon tx n 13 0 ((pp + 1 + sv_len 4) + 1) nu mo).2.1) + 1 + sv_len 5) + 1)) + 1 + sv_len 6) + 1)) (rd_end tx n (((rd_end tx n ((((rd_mon tx n 13 0 ((pp + 1 + sv_len 4) + 1) nu mo).2.1) + 1 + sv_len 5) + 1)) + 1 + sv_len 6) + 1)) (((rd_end tx n ((((rd_mon tx n 13 0 ((pp + 1 + sv_len 4) + 1) nu mo).2.1) + 1 + sv_len 5) + 1)) + 1 + sv_len 6) + 1))), .int (cond (rd_num tx n 1 99 (((rd_end tx n ((((rd_mon tx n 13 0 ((pp + 1 + sv_len 4) + 1) nu mo).2.1) + 1 + sv_len 5) + 1)) + 1 + sv_len 6) + 1)) (nI (rd_val tx n (((rd_end tx n ((((rd_mon tx n 13 0 ((pp + 1 + sv_len 4) + 1) nu mo).2.1) + 1 + sv_len 5) + 1)) + 1 + sv_len 6) + 1))) (nI (rd_val tx n ((((rd_mon tx n 13 0 ((pp + 1 + sv_len 4) + 1) nu mo).2.1) + 1 + sv_len 5) + 1)))), .int st, .int ((rd_mon tx n 13 0 ((pp + 1 + sv_len 4) + 1) nu mo).2.2.2), .int (nI (rd_val tx n ((((rd_mon tx n 13 0 ((pp + 1 + sv_len 4) + 1) nu mo).2.1) + 1 + sv_len 5) + 1))), .int vo, .int (bo_I re)])), (sa, .inl (cI, 120, .inl tx))]) [0, 1] (by decide) rfl
                  rcases hb_81 : rd_num tx n 1 99 (((rd_end tx n ((((rd_mon tx n 13 0 ((pp + 1 + sv_len 4) + 1) nu mo).2.1) + 1 + sv_len 5) + 1)) + 1 + sv_len 6) + 1) with _ | _
                  · rw [hb_81] at hP hD
                    have hP : va_P (dC, dI) ga_cl [(rd, .inr (3, [.ref sa, .int (nI n), .int (nI (((rd_end tx n ((((rd_mon tx n 13 0 ((pp + 1 + sv_len 4) + 1) nu mo).2.1) + 1 + sv_len 5) + 1)) + 1 + sv_len 6) + 1)), .int (nI (rd_val tx n ((((rd_mon tx n 13 0 ((pp + 1 + sv_len 4) + 1) nu mo).2.1) + 1 + sv_len 5) + 1))), .int st, .int ((rd_mon tx n 13 0 ((pp + 1 + sv_len 4) + 1) nu mo).2.2.2), .int (nI (rd_val tx n ((((rd_mon tx n 13 0 ((pp + 1 + sv_len 4) + 1) nu mo).2.1) + 1 + sv_len 5) + 1))), .int vo, .int (bo_I re)])), (sa, .inl (cI, 120, .inl tx))] H := hP
                    have hD : va_D A [(rd, .inr (3, [.ref sa, .int (nI n), .int (nI (((rd_end tx n ((((rd_mon tx n 13 0 ((pp + 1 + sv_len 4) + 1) nu mo).2.1) + 1 + sv_len 5) + 1)) + 1 + sv_len 6) + 1)), .int (nI (rd_val tx n ((((rd_mon tx n 13 0 ((pp + 1 + sv_len 4) + 1) nu mo).2.1) + 1 + sv_len 5) + 1))), .int st, .int ((rd_mon tx n 13 0 ((pp + 1 + sv_len 4) + 1) nu mo).2.2.2), .int (nI (rd_val tx n ((((rd_mon tx n 13 0 ((pp + 1 + sv_len 4) + 1) nu mo).2.1) + 1 + sv_len 5) + 1))), .int vo, .int (bo_I re)])), (sa, .inl (cI, 120, .inl tx))] := hD
                    refine lv_if_ne (tgt := 89) hx hb d_Rd_takeClauses_84 (by decide) (fun z9 => absurd z9 (by decide)) (fun _ => ?_)
                    refine lv_iconst (v := 0) hx hb d_Rd_takeClauses_87 (by decide) ?_
                    rw [hQ]
                    have z9 : rd_cl tx n pp nu mo jo vo re = (false, ((rd_end tx n ((((rd_mon tx n 13 0 ((pp + 1 + sv_len 4) + 1) nu mo).2.1) + 1 + sv_len 5) + 1)) + 1 + sv_len 6) + 1, (nI (rd_val tx n ((((rd_mon tx n 13 0 ((pp + 1 + sv_len 4) + 1) nu mo).2.1) + 1 + sv_len 5) + 1))), ((rd_mon tx n 13 0 ((pp + 1 + sv_len 4) + 1) nu mo).2.2.2), (nI (rd_val tx n ((((rd_mon tx n 13 0 ((pp + 1 + sv_len 4) + 1) nu mo).2.1) + 1 + sv_len 5) + 1))), vo, re) := by simp only [rd_cl, rd_c1, rd_c2, rd_c3, hb_3, hb_10, hb_17, hb_28, hb_35, hb_45, hb_64, hb_71, hb_81, cond_true, cond_false]
                    have q9 : (0 : Int32) = bo_I ((rd_cl tx n pp nu mo jo vo re).1) := by rw [z9]; rfl
                    have e9 : ([(rd, .inr (3, [.ref sa, .int (nI n), .int (nI ((rd_cl tx n pp nu mo jo vo re).2.1)), .int ((rd_cl tx n pp nu mo jo vo re).2.2.1), .int st, .int ((rd_cl tx n pp nu mo jo vo re).2.2.2.1), .int ((rd_cl tx n pp nu mo jo vo re).2.2.2.2.1), .int ((rd_cl tx n pp nu mo jo vo re).2.2.2.2.2.1), .int (bo_I ((rd_cl tx n pp nu mo jo vo re).2.2.2.2.2.2))])), (sa, .inl (cI, 120, .inl tx))] : va_W) = [(rd, .inr (3, [.ref sa, .int (nI n), .int (nI (((rd_end tx n ((((rd_mon tx n 13 0 ((pp + 1 + sv_len 4) + 1) nu mo).2.1) + 1 + sv_len 5) + 1)) + 1 + sv_len 6) + 1)), .int (nI (rd_val tx n ((((rd_mon tx n 13 0 ((pp + 1 + sv_len 4) + 1) nu mo).2.1) + 1 + sv_len 5) + 1))), .int st, .int ((rd_mon tx n 13 0 ((pp + 1 + sv_len 4) + 1) nu mo).2.2.2), .int (nI (rd_val tx n ((((rd_mon tx n 13 0 ((pp + 1 + sv_len 4) + 1) nu mo).2.1) + 1 + sv_len 5) + 1))), .int vo, .int (bo_I re)])), (sa, .inl (cI, 120, .inl tx))] := by rw [z9] <;> rfl
                    exact W.zret (v := 0) hx hb hr rfl (fun t ht hW => ⟨⟨_, (), rfl, q9, by rw [ht, e9]; exact hP, va_K.moved hW.alike hK, by rw [e9]; exact hD⟩, hS.F ht⟩) hS.2.2 d_Rd_takeClauses_88
                  · rw [hb_81] at hP hD
                    have hP : va_P (dC, dI) ga_cl [(rd, .inr (3, [.ref sa, .int (nI n), .int (nI (rd_end tx n (((rd_end tx n ((((rd_mon tx n 13 0 ((pp + 1 + sv_len 4) + 1) nu mo).2.1) + 1 + sv_len 5) + 1)) + 1 + sv_len 6) + 1))), .int (nI (rd_val tx n (((rd_end tx n ((((rd_mon tx n 13 0 ((pp + 1 + sv_len 4) + 1) nu mo).2.1) + 1 + sv_len 5) + 1)) + 1 + sv_len 6) + 1))), .int st, .int ((rd_mon tx n 13 0 ((pp + 1 + sv_len 4) + 1) nu mo).2.2.2), .int (nI (rd_val tx n ((((rd_mon tx n 13 0 ((pp + 1 + sv_len 4) + 1) nu mo).2.1) + 1 + sv_len 5) + 1))), .int vo, .int (bo_I re)])), (sa, .inl (cI, 120, .inl tx))] H := hP
                    have hD : va_D A [(rd, .inr (3, [.ref sa, .int (nI n), .int (nI (rd_end tx n (((rd_end tx n ((((rd_mon tx n 13 0 ((pp + 1 + sv_len 4) + 1) nu mo).2.1) + 1 + sv_len 5) + 1)) + 1 + sv_len 6) + 1))), .int (nI (rd_val tx n (((rd_end tx n ((((rd_mon tx n 13 0 ((pp + 1 + sv_len 4) + 1) nu mo).2.1) + 1 + sv_len 5) + 1)) + 1 + sv_len 6) + 1))), .int st, .int ((rd_mon tx n 13 0 ((pp + 1 + sv_len 4) + 1) nu mo).2.2.2), .int (nI (rd_val tx n ((((rd_mon tx n 13 0 ((pp + 1 + sv_len 4) + 1) nu mo).2.1) + 1 + sv_len 5) + 1))), .int vo, .int (bo_I re)])), (sa, .inl (cI, 120, .inl tx))] := hD
                    have l_81 := rd_end_le (tx := tx) (n := n) (p := _ + 1) l_71
                    refine lv_if_ne (tgt := 89) hx hb d_Rd_takeClauses_84 (by decide) (fun _ => ?_) (fun z9 => absurd z9 (by decide))
                    refine lv_aload_n hx hb d_Rd_takeClauses_89 rfl (lv_at hl 0 rfl) ?_
                    refine lv_aload_n hx hb d_Rd_takeClauses_90 rfl (lv_at hl 0 rfl) ?_
                    refine va_get (D := (dC, dI)) (ci := 3) (v := .int (nI (rd_val tx n (((rd_end tx n ((((rd_mon tx n 13 0 ((pp + 1 + sv_len 4) + 1) nu mo).2.1) + 1 + sv_len 5) + 1)) + 1 + sv_len 6) + 1)))) (C := "PatternText$PatternReader") (T := F_Rd) (N := 9) hx hb hts iw_Rd hown hK hP 0 rfl rfl 3 (by decide) (hts _ kw_68) (fun _ h9 => h9) rfl d_Rd_takeClauses_91 ?_
                    refine va_put (D := (dC, dI)) (ci := 3) (v := .int (nI (rd_val tx n (((rd_end tx n ((((rd_mon tx n 13 0 ((pp + 1 + sv_len 4) + 1) nu mo).2.1) + 1 + sv_len 5) + 1)) + 1 + sv_len 6) + 1)))) (ty := .int) (C := "PatternText$PatternReader") (T := F_Rd) (N := 9) hx hb hts iw_Rd t_Rd t_Rd_ok n_Rd hown hK hP hD hS 0 rfl rfl 7 (by decide) (hts _ kw_72) (fun _ h9 => h9) rfl (by decide +kernel) rfl rfl (Nat.le_of_ble_eq_true rfl) d_Rd_takeClauses_94 (fun H locs hP hD hS => ?_)
                    have hP : va_P (dC, dI) ga_cl [(rd, .inr (3, [.ref sa, .int (nI n), .int (nI (rd_end tx n (((rd_end tx n ((((rd_mon tx n 13 0 ((pp + 1 + sv_len 4) + 1) nu mo).2.1) + 1 + sv_len 5) + 1)) + 1 + sv_len 6) + 1))), .int (nI (rd_val tx n (((rd_end tx n ((((rd_mon tx n 13 0 ((pp + 1 + sv_len 4) + 1) nu mo).2.1) + 1 + sv_len 5) + 1)) + 1 + sv_len 6) + 1))), .int st, .int ((rd_mon tx n 13 0 ((pp + 1 + sv_len 4) + 1) nu mo).2.2.2), .int (nI (rd_val tx n ((((rd_mon tx n 13 0 ((pp + 1 + sv_len 4) + 1) nu mo).2.1) + 1 + sv_len 5) + 1))), .int (nI (rd_val tx n (((rd_end tx n ((((rd_mon tx n 13 0 ((pp + 1 + sv_len 4) + 1) nu mo).2.1) + 1 + sv_len 5) + 1)) + 1 + sv_len 6) + 1))), .int (bo_I re)])), (sa, .inl (cI, 120, .inl tx))] H := hP
                    have hD : va_D A [(rd, .inr (3, [.ref sa, .int (nI n), .int (nI (rd_end tx n (((rd_end tx n ((((rd_mon tx n 13 0 ((pp + 1 + sv_len 4) + 1) nu mo).2.1) + 1 + sv_len 5) + 1)) + 1 + sv_len 6) + 1))), .int (nI (rd_val tx n (((rd_end tx n ((((rd_mon tx n 13 0 ((pp + 1 + sv_len 4) + 1) nu mo).2.1) + 1 + sv_len 5) + 1)) + 1 + sv_len 6) + 1))), .int st, .int ((rd_mon tx n 13 0 ((pp + 1 + sv_len 4) + 1) nu mo).2.2.2), .int (nI (rd_val tx n ((((rd_mon tx n 13 0 ((pp + 1 + sv_len 4) + 1) nu mo).2.1) + 1 + sv_len 5) + 1))), .int (nI (rd_val tx n (((rd_end tx n ((((rd_mon tx n 13 0 ((pp + 1 + sv_len 4) + 1) nu mo).2.1) + 1 + sv_len 5) + 1)) + 1 + sv_len 6) + 1))), .int (bo_I re)])), (sa, .inl (cI, 120, .inl tx))] := hD
                    refine lv_aload_n hx hb d_Rd_takeClauses_97 rfl (lv_at hl 0 rfl) ?_
                    refine lv_aload_n hx hb d_Rd_takeClauses_98 rfl (lv_at hl 0 rfl) ?_
                    refine va_ldcS hx hb hown (hE.2.2 7 (by decide)).2 d_Rd_takeClauses_99 ?_
                    have hF_101 := va_free (wc := [(rd, .inr (3, [.ref sa, .int (nI n), .int (nI (rd_end tx n (((rd_end tx n ((((rd_mon tx n 13 0 ((pp + 1 + sv_len 4) + 1) nu mo).2.1) + 1 + sv_len 5) + 1)) + 1 + sv_len 6) + 1))), .int (nI (rd_val tx n (((rd_end tx n ((((rd_mon tx n 13 0 ((pp + 1 + sv_len 4) + 1) nu mo).2.1) + 1 + sv_len 5) + 1)) + 1 + sv_len 6) + 1))), .int st, .int ((rd_mon tx n 13 0 ((pp + 1 + sv_len 4) + 1) nu mo).2.2.2), .int (nI (rd_val tx n ((((rd_mon tx n 13 0 ((pp + 1 + sv_len 4) + 1) nu mo).2.1) + 1 + sv_len 5) + 1))), .int (nI (rd_val tx n (((rd_end tx n ((((rd_mon tx n 13 0 ((pp + 1 + sv_len 4) + 1) nu mo).2.1) + 1 + sv_len 5) + 1)) + 1 + sv_len 6) + 1))), .int (bo_I re)])), (sa, .inl (cI, 120, .inl tx))]) hD hS hA [0, 1] rfl
                    refine wy_calli (wr := []) (w1 := [(rd, .inr (3, [.ref sa, .int (nI n), .int (nI (cond (rd_next tx n (rd_end tx n (((rd_end tx n ((((rd_mon tx n 13 0 ((pp + 1 + sv_len 4) + 1) nu mo).2.1) + 1 + sv_len 5) + 1)) + 1 + sv_len 6) + 1)) (sv_w 7) (sv_len 7)) ((rd_end tx n (((rd_end tx n ((((rd_mon tx n 13 0 ((pp + 1 + sv_len 4) + 1) nu mo).2.1) + 1 + sv_len 5) + 1)) + 1 + sv_len 6) + 1)) + 1 + sv_len 7) (rd_end tx n (((rd_end tx n ((((rd_mon tx n 13 0 ((pp + 1 + sv_len 4) + 1) nu mo).2.1) + 1 + sv_len 5) + 1)) + 1 + sv_len 6) + 1)))), .int (nI (rd_val tx n (((rd_end tx n ((((rd_mon tx n 13 0 ((pp + 1 + sv_len 4) + 1) nu mo).2.1) + 1 + sv_len 5) + 1)) + 1 + sv_len 6) + 1))), .int st, .int ((rd_mon tx n 13 0 ((pp + 1 + sv_len 4) + 1) nu mo).2.2.2), .int (nI (rd_val tx n ((((rd_mon tx n 13 0 ((pp + 1 + sv_len 4) + 1) nu mo).2.1) + 1 + sv_len 5) + 1))), .int (nI (rd_val tx n (((rd_end tx n ((((rd_mon tx n 13 0 ((pp + 1 + sv_len 4) + 1) nu mo).2.1) + 1 + sv_len 5) + 1)) + 1 + sv_len 6) + 1))), .int (bo_I re)])), (sa, .inl (cI, 120, .inl tx))]) (va_runV (As := [.ref (ad 7)]) (rest := [.ref rd]) ⟨hx, hb, hml, hown, hts⟩ (c_Rd_takeNextWord l dC dI H.size ad av rd sa cI tx n (rd_end tx n (((rd_end tx n ((((rd_mon tx n 13 0 ((pp + 1 + sv_len 4) + 1) nu mo).2.1) + 1 + sv_len 5) + 1)) + 1 + sv_len 6) + 1)) (nI (rd_val tx n (((rd_end tx n ((((rd_mon tx n 13 0 ((pp + 1 + sv_len 4) + 1) nu mo).2.1) + 1 + sv_len 5) + 1)) + 1 + sv_len 6) + 1))) st ((rd_mon tx n 13 0 ((pp + 1 + sv_len 4) + 1) nu mo).2.2.2) (nI (rd_val tx n ((((rd_mon tx n 13 0 ((pp + 1 + sv_len 4) + 1) nu mo).2.1) + 1 + sv_len 5) + 1))) (nI (rd_val tx n (((rd_end tx n ((((rd_mon tx n 13 0 ((pp + 1 + sv_len 4) + 1) nu mo).2.1) + 1 + sv_len 5) + 1)) + 1 + sv_len 6) + 1))) re 7 (by omega) (by omega) (by decide)) (cwV 1 hts (ga_V kw_280 kw_282 kw_7 kw_35 (ga_in kw_283)) rfl rfl rfl (by decide +kernel) ⟨Nat.le_of_ble_eq_true rfl, Nat.le_of_ble_eq_true rfl⟩) (wy_mreVE 0 (hP.sub (ws' := [(rd, .inr (3, [.ref sa, .int (nI n), .int (nI (rd_end tx n (((rd_end tx n ((((rd_mon tx n 13 0 ((pp + 1 + sv_len 4) + 1) nu mo).2.1) + 1 + sv_len 5) + 1)) + 1 + sv_len 6) + 1))), .int (nI (rd_val tx n (((rd_end tx n ((((rd_mon tx n 13 0 ((pp + 1 + sv_len 4) + 1) nu mo).2.1) + 1 + sv_len 5) + 1)) + 1 + sv_len 6) + 1))), .int st, .int ((rd_mon tx n 13 0 ((pp + 1 + sv_len 4) + 1) nu mo).2.2.2), .int (nI (rd_val tx n ((((rd_mon tx n 13 0 ((pp + 1 + sv_len 4) + 1) nu mo).2.1) + 1 + sv_len 5) + 1))), .int (nI (rd_val tx n (((rd_end tx n ((((rd_mon tx n 13 0 ((pp + 1 + sv_len 4) + 1) nu mo).2.1) + 1 + sv_len 5) + 1)) + 1 + sv_len 6) + 1))), .int (bo_I re)])), (sa, .inl (cI, 120, .inl tx))]) [0, 1] rfl) (hK.sub (tys' := [(cI, .int)]) [0] rfl) hN (hD.sub (ws' := [(rd, .inr (3, [.ref sa, .int (nI n), .int (nI (rd_end tx n (((rd_end tx n ((((rd_mon tx n 13 0 ((pp + 1 + sv_len 4) + 1) nu mo).2.1) + 1 + sv_len 5) + 1)) + 1 + sv_len 6) + 1))), .int (nI (rd_val tx n (((rd_end tx n ((((rd_mon tx n 13 0 ((pp + 1 + sv_len 4) + 1) nu mo).2.1) + 1 + sv_len 5) + 1)) + 1 + sv_len 6) + 1))), .int st, .int ((rd_mon tx n 13 0 ((pp + 1 + sv_len 4) + 1) nu mo).2.2.2), .int (nI (rd_val tx n ((((rd_mon tx n 13 0 ((pp + 1 + sv_len 4) + 1) nu mo).2.1) + 1 + sv_len 5) + 1))), .int (nI (rd_val tx n (((rd_end tx n ((((rd_mon tx n 13 0 ((pp + 1 + sv_len 4) + 1) nu mo).2.1) + 1 + sv_len 5) + 1)) + 1 + sv_len 6) + 1))), .int (bo_I re)])), (sa, .inl (cI, 120, .inl tx))]) [0, 1] (by decide) rfl) hE hS hF_101 (ci := 3) rfl rfl rfl) rfl rfl hl.1 rfl (lv_room (Nat.le_of_ble_eq_true rfl)) d_Rd_takeClauses_101 ⟨Nat.le_of_ble_eq_true rfl, Nat.le_of_ble_eq_true rfl⟩) hP hD hS hA [0, 1] [] rfl rfl (by decide) (by decide) (fun H locs hP hD hS => ?_)
                    have hP := hP.sub (ws' := [(rd, .inr (3, [.ref sa, .int (nI n), .int (nI (cond (rd_next tx n (rd_end tx n (((rd_end tx n ((((rd_mon tx n 13 0 ((pp + 1 + sv_len 4) + 1) nu mo).2.1) + 1 + sv_len 5) + 1)) + 1 + sv_len 6) + 1)) (sv_w 7) (sv_len 7)) ((rd_end tx n (((rd_end tx n ((((rd_mon tx n 13 0 ((pp + 1 + sv_len 4) + 1) nu mo).2.1) + 1 + sv_len 5) + 1)) + 1 + sv_len 6) + 1)) + 1 + sv_len 7) (rd_end tx n (((rd_end tx n ((((rd_mon tx n 13 0 ((pp + 1 + sv_len 4) + 1) nu mo).2.1) + 1 + sv_len 5) + 1)) + 1 + sv_len 6) + 1)))), .int (nI (rd_val tx n (((rd_end tx n ((((rd_mon tx n 13 0 ((pp + 1 + sv_len 4) + 1) nu mo).2.1) + 1 + sv_len 5) + 1)) + 1 + sv_len 6) + 1))), .int st, .int ((rd_mon tx n 13 0 ((pp + 1 + sv_len 4) + 1) nu mo).2.2.2), .int (nI (rd_val tx n ((((rd_mon tx n 13 0 ((pp + 1 + sv_len 4) + 1) nu mo).2.1) + 1 + sv_len 5) + 1))), .int (nI (rd_val tx n (((rd_end tx n ((((rd_mon tx n 13 0 ((pp + 1 + sv_len 4) + 1) nu mo).2.1) + 1 + sv_len 5) + 1)) + 1 + sv_len 6) + 1))), .int (bo_I re)])), (sa, .inl (cI, 120, .inl tx))]) [0, 1] rfl
                    have hD := hD.sub (ws' := [(rd, .inr (3, [.ref sa, .int (nI n), .int (nI (cond (rd_next tx n (rd_end tx n (((rd_end tx n ((((rd_mon tx n 13 0 ((pp + 1 + sv_len 4) + 1) nu mo).2.1) + 1 + sv_len 5) + 1)) + 1 + sv_len 6) + 1)) (sv_w 7) (sv_len 7)) ((rd_end tx n (((rd_end tx n ((((rd_mon tx n 13 0 ((pp + 1 + sv_len 4) + 1) nu mo).2.1) + 1 + sv_len 5) + 1)) + 1 + sv_len 6) + 1)) + 1 + sv_len 7) (rd_end tx n (((rd_end tx n ((((rd_mon tx n 13 0 ((pp + 1 + sv_len 4) + 1) nu mo).2.1) + 1 + sv_len 5) + 1)) + 1 + sv_len 6) + 1)))), .int (nI (rd_val tx n (((rd_end tx n ((((rd_mon tx n 13 0 ((pp + 1 + sv_len 4) + 1) nu mo).2.1) + 1 + sv_len 5) + 1)) + 1 + sv_len 6) + 1))), .int st, .int ((rd_mon tx n 13 0 ((pp + 1 + sv_len 4) + 1) nu mo).2.2.2), .int (nI (rd_val tx n ((((rd_mon tx n 13 0 ((pp + 1 + sv_len 4) + 1) nu mo).2.1) + 1 + sv_len 5) + 1))), .int (nI (rd_val tx n (((rd_end tx n ((((rd_mon tx n 13 0 ((pp + 1 + sv_len 4) + 1) nu mo).2.1) + 1 + sv_len 5) + 1)) + 1 + sv_len 6) + 1))), .int (bo_I re)])), (sa, .inl (cI, 120, .inl tx))]) [0, 1] (by decide) rfl
                    rcases hb_101 : rd_next tx n (rd_end tx n (((rd_end tx n ((((rd_mon tx n 13 0 ((pp + 1 + sv_len 4) + 1) nu mo).2.1) + 1 + sv_len 5) + 1)) + 1 + sv_len 6) + 1)) (sv_w 7) (sv_len 7) with _ | _
                    · rw [hb_101] at hP hD
                      have hP : va_P (dC, dI) ga_cl [(rd, .inr (3, [.ref sa, .int (nI n), .int (nI (rd_end tx n (((rd_end tx n ((((rd_mon tx n 13 0 ((pp + 1 + sv_len 4) + 1) nu mo).2.1) + 1 + sv_len 5) + 1)) + 1 + sv_len 6) + 1))), .int (nI (rd_val tx n (((rd_end tx n ((((rd_mon tx n 13 0 ((pp + 1 + sv_len 4) + 1) nu mo).2.1) + 1 + sv_len 5) + 1)) + 1 + sv_len 6) + 1))), .int st, .int ((rd_mon tx n 13 0 ((pp + 1 + sv_len 4) + 1) nu mo).2.2.2), .int (nI (rd_val tx n ((((rd_mon tx n 13 0 ((pp + 1 + sv_len 4) + 1) nu mo).2.1) + 1 + sv_len 5) + 1))), .int (nI (rd_val tx n (((rd_end tx n ((((rd_mon tx n 13 0 ((pp + 1 + sv_len 4) + 1) nu mo).2.1) + 1 + sv_len 5) + 1)) + 1 + sv_len 6) + 1))), .int (bo_I re)])), (sa, .inl (cI, 120, .inl tx))] H := hP
                      have hD : va_D A [(rd, .inr (3, [.ref sa, .int (nI n), .int (nI (rd_end tx n (((rd_end tx n ((((rd_mon tx n 13 0 ((pp + 1 + sv_len 4) + 1) nu mo).2.1) + 1 + sv_len 5) + 1)) + 1 + sv_len 6) + 1))), .int (nI (rd_val tx n (((rd_end tx n ((((rd_mon tx n 13 0 ((pp + 1 + sv_len 4) + 1) nu mo).2.1) + 1 + sv_len 5) + 1)) + 1 + sv_len 6) + 1))), .int st, .int ((rd_mon tx n 13 0 ((pp + 1 + sv_len 4) + 1) nu mo).2.2.2), .int (nI (rd_val tx n ((((rd_mon tx n 13 0 ((pp + 1 + sv_len 4) + 1) nu mo).2.1) + 1 + sv_len 5) + 1))), .int (nI (rd_val tx n (((rd_end tx n ((((rd_mon tx n 13 0 ((pp + 1 + sv_len 4) + 1) nu mo).2.1) + 1 + sv_len 5) + 1)) + 1 + sv_len 6) + 1))), .int (bo_I re)])), (sa, .inl (cI, 120, .inl tx))] := hD
                      refine va_put (D := (dC, dI)) (ci := 3) (v := .int 0) (ty := .boolean) (C := "PatternText$PatternReader") (T := F_Rd) (N := 9) hx hb hts iw_Rd t_Rd t_Rd_ok n_Rd hown hK hP hD hS 0 rfl rfl 8 (by decide) (hts _ kw_73) (fun _ h9 => h9) rfl (by decide +kernel) rfl rfl (Nat.le_of_ble_eq_true rfl) d_Rd_takeClauses_104 (fun H locs hP hD hS => ?_)
                      have hP : va_P (dC, dI) ga_cl [(rd, .inr (3, [.ref sa, .int (nI n), .int (nI (rd_end tx n (((rd_end tx n ((((rd_mon tx n 13 0 ((pp + 1 + sv_len 4) + 1) nu mo).2.1) + 1 + sv_len 5) + 1)) + 1 + sv_len 6) + 1))), .int (nI (rd_val tx n (((rd_end tx n ((((rd_mon tx n 13 0 ((pp + 1 + sv_len 4) + 1) nu mo).2.1) + 1 + sv_len 5) + 1)) + 1 + sv_len 6) + 1))), .int st, .int ((rd_mon tx n 13 0 ((pp + 1 + sv_len 4) + 1) nu mo).2.2.2), .int (nI (rd_val tx n ((((rd_mon tx n 13 0 ((pp + 1 + sv_len 4) + 1) nu mo).2.1) + 1 + sv_len 5) + 1))), .int (nI (rd_val tx n (((rd_end tx n ((((rd_mon tx n 13 0 ((pp + 1 + sv_len 4) + 1) nu mo).2.1) + 1 + sv_len 5) + 1)) + 1 + sv_len 6) + 1))), .int 0])), (sa, .inl (cI, 120, .inl tx))] H := hP
                      have hD : va_D A [(rd, .inr (3, [.ref sa, .int (nI n), .int (nI (rd_end tx n (((rd_end tx n ((((rd_mon tx n 13 0 ((pp + 1 + sv_len 4) + 1) nu mo).2.1) + 1 + sv_len 5) + 1)) + 1 + sv_len 6) + 1))), .int (nI (rd_val tx n (((rd_end tx n ((((rd_mon tx n 13 0 ((pp + 1 + sv_len 4) + 1) nu mo).2.1) + 1 + sv_len 5) + 1)) + 1 + sv_len 6) + 1))), .int st, .int ((rd_mon tx n 13 0 ((pp + 1 + sv_len 4) + 1) nu mo).2.2.2), .int (nI (rd_val tx n ((((rd_mon tx n 13 0 ((pp + 1 + sv_len 4) + 1) nu mo).2.1) + 1 + sv_len 5) + 1))), .int (nI (rd_val tx n (((rd_end tx n ((((rd_mon tx n 13 0 ((pp + 1 + sv_len 4) + 1) nu mo).2.1) + 1 + sv_len 5) + 1)) + 1 + sv_len 6) + 1))), .int 0])), (sa, .inl (cI, 120, .inl tx))] := hD
                      refine lv_iconst (v := 1) hx hb d_Rd_takeClauses_107 (by decide) ?_
                      rw [hQ]
                      have z9 : rd_cl tx n pp nu mo jo vo re = (true, rd_end tx n (((rd_end tx n ((((rd_mon tx n 13 0 ((pp + 1 + sv_len 4) + 1) nu mo).2.1) + 1 + sv_len 5) + 1)) + 1 + sv_len 6) + 1), (nI (rd_val tx n (((rd_end tx n ((((rd_mon tx n 13 0 ((pp + 1 + sv_len 4) + 1) nu mo).2.1) + 1 + sv_len 5) + 1)) + 1 + sv_len 6) + 1))), ((rd_mon tx n 13 0 ((pp + 1 + sv_len 4) + 1) nu mo).2.2.2), (nI (rd_val tx n ((((rd_mon tx n 13 0 ((pp + 1 + sv_len 4) + 1) nu mo).2.1) + 1 + sv_len 5) + 1))), (nI (rd_val tx n (((rd_end tx n ((((rd_mon tx n 13 0 ((pp + 1 + sv_len 4) + 1) nu mo).2.1) + 1 + sv_len 5) + 1)) + 1 + sv_len 6) + 1))), false) := by simp only [rd_cl, rd_c1, rd_c2, rd_c3, hb_3, hb_10, hb_17, hb_28, hb_35, hb_45, hb_64, hb_71, hb_81, hb_101, cond_true, cond_false]
                      have q9 : (1 : Int32) = bo_I ((rd_cl tx n pp nu mo jo vo re).1) := by rw [z9]; rfl
                      have e9 : ([(rd, .inr (3, [.ref sa, .int (nI n), .int (nI ((rd_cl tx n pp nu mo jo vo re).2.1)), .int ((rd_cl tx n pp nu mo jo vo re).2.2.1), .int st, .int ((rd_cl tx n pp nu mo jo vo re).2.2.2.1), .int ((rd_cl tx n pp nu mo jo vo re).2.2.2.2.1), .int ((rd_cl tx n pp nu mo jo vo re).2.2.2.2.2.1), .int (bo_I ((rd_cl tx n pp nu mo jo vo re).2.2.2.2.2.2))])), (sa, .inl (cI, 120, .inl tx))] : va_W) = [(rd, .inr (3, [.ref sa, .int (nI n), .int (nI (rd_end tx n (((rd_end tx n ((((rd_mon tx n 13 0 ((pp + 1 + sv_len 4) + 1) nu mo).2.1) + 1 + sv_len 5) + 1)) + 1 + sv_len 6) + 1))), .int (nI (rd_val tx n (((rd_end tx n ((((rd_mon tx n 13 0 ((pp + 1 + sv_len 4) + 1) nu mo).2.1) + 1 + sv_len 5) + 1)) + 1 + sv_len 6) + 1))), .int st, .int ((rd_mon tx n 13 0 ((pp + 1 + sv_len 4) + 1) nu mo).2.2.2), .int (nI (rd_val tx n ((((rd_mon tx n 13 0 ((pp + 1 + sv_len 4) + 1) nu mo).2.1) + 1 + sv_len 5) + 1))), .int (nI (rd_val tx n (((rd_end tx n ((((rd_mon tx n 13 0 ((pp + 1 + sv_len 4) + 1) nu mo).2.1) + 1 + sv_len 5) + 1)) + 1 + sv_len 6) + 1))), .int 0])), (sa, .inl (cI, 120, .inl tx))] := by rw [z9] <;> rfl
                      exact W.zret (v := 1) hx hb hr rfl (fun t ht hW => ⟨⟨_, (), rfl, q9, by rw [ht, e9]; exact hP, va_K.moved hW.alike hK, by rw [e9]; exact hD⟩, hS.F ht⟩) hS.2.2 d_Rd_takeClauses_108
                    · rw [hb_101] at hP hD
                      have hP : va_P (dC, dI) ga_cl [(rd, .inr (3, [.ref sa, .int (nI n), .int (nI ((rd_end tx n (((rd_end tx n ((((rd_mon tx n 13 0 ((pp + 1 + sv_len 4) + 1) nu mo).2.1) + 1 + sv_len 5) + 1)) + 1 + sv_len 6) + 1)) + 1 + sv_len 7)), .int (nI (rd_val tx n (((rd_end tx n ((((rd_mon tx n 13 0 ((pp + 1 + sv_len 4) + 1) nu mo).2.1) + 1 + sv_len 5) + 1)) + 1 + sv_len 6) + 1))), .int st, .int ((rd_mon tx n 13 0 ((pp + 1 + sv_len 4) + 1) nu mo).2.2.2), .int (nI (rd_val tx n ((((rd_mon tx n 13 0 ((pp + 1 + sv_len 4) + 1) nu mo).2.1) + 1 + sv_len 5) + 1))), .int (nI (rd_val tx n (((rd_end tx n ((((rd_mon tx n 13 0 ((pp + 1 + sv_len 4) + 1) nu mo).2.1) + 1 + sv_len 5) + 1)) + 1 + sv_len 6) + 1))), .int (bo_I re)])), (sa, .inl (cI, 120, .inl tx))] H := hP
                      have hD : va_D A [(rd, .inr (3, [.ref sa, .int (nI n), .int (nI ((rd_end tx n (((rd_end tx n ((((rd_mon tx n 13 0 ((pp + 1 + sv_len 4) + 1) nu mo).2.1) + 1 + sv_len 5) + 1)) + 1 + sv_len 6) + 1)) + 1 + sv_len 7)), .int (nI (rd_val tx n (((rd_end tx n ((((rd_mon tx n 13 0 ((pp + 1 + sv_len 4) + 1) nu mo).2.1) + 1 + sv_len 5) + 1)) + 1 + sv_len 6) + 1))), .int st, .int ((rd_mon tx n 13 0 ((pp + 1 + sv_len 4) + 1) nu mo).2.2.2), .int (nI (rd_val tx n ((((rd_mon tx n 13 0 ((pp + 1 + sv_len 4) + 1) nu mo).2.1) + 1 + sv_len 5) + 1))), .int (nI (rd_val tx n (((rd_end tx n ((((rd_mon tx n 13 0 ((pp + 1 + sv_len 4) + 1) nu mo).2.1) + 1 + sv_len 5) + 1)) + 1 + sv_len 6) + 1))), .int (bo_I re)])), (sa, .inl (cI, 120, .inl tx))] := hD
                      refine va_put (D := (dC, dI)) (ci := 3) (v := .int 1) (ty := .boolean) (C := "PatternText$PatternReader") (T := F_Rd) (N := 9) hx hb hts iw_Rd t_Rd t_Rd_ok n_Rd hown hK hP hD hS 0 rfl rfl 8 (by decide) (hts _ kw_73) (fun _ h9 => h9) rfl (by decide +kernel) rfl rfl (Nat.le_of_ble_eq_true rfl) d_Rd_takeClauses_104 (fun H locs hP hD hS => ?_)
                      have hP : va_P (dC, dI) ga_cl [(rd, .inr (3, [.ref sa, .int (nI n), .int (nI ((rd_end tx n (((rd_end tx n ((((rd_mon tx n 13 0 ((pp + 1 + sv_len 4) + 1) nu mo).2.1) + 1 + sv_len 5) + 1)) + 1 + sv_len 6) + 1)) + 1 + sv_len 7)), .int (nI (rd_val tx n (((rd_end tx n ((((rd_mon tx n 13 0 ((pp + 1 + sv_len 4) + 1) nu mo).2.1) + 1 + sv_len 5) + 1)) + 1 + sv_len 6) + 1))), .int st, .int ((rd_mon tx n 13 0 ((pp + 1 + sv_len 4) + 1) nu mo).2.2.2), .int (nI (rd_val tx n ((((rd_mon tx n 13 0 ((pp + 1 + sv_len 4) + 1) nu mo).2.1) + 1 + sv_len 5) + 1))), .int (nI (rd_val tx n (((rd_end tx n ((((rd_mon tx n 13 0 ((pp + 1 + sv_len 4) + 1) nu mo).2.1) + 1 + sv_len 5) + 1)) + 1 + sv_len 6) + 1))), .int 1])), (sa, .inl (cI, 120, .inl tx))] H := hP
                      have hD : va_D A [(rd, .inr (3, [.ref sa, .int (nI n), .int (nI ((rd_end tx n (((rd_end tx n ((((rd_mon tx n 13 0 ((pp + 1 + sv_len 4) + 1) nu mo).2.1) + 1 + sv_len 5) + 1)) + 1 + sv_len 6) + 1)) + 1 + sv_len 7)), .int (nI (rd_val tx n (((rd_end tx n ((((rd_mon tx n 13 0 ((pp + 1 + sv_len 4) + 1) nu mo).2.1) + 1 + sv_len 5) + 1)) + 1 + sv_len 6) + 1))), .int st, .int ((rd_mon tx n 13 0 ((pp + 1 + sv_len 4) + 1) nu mo).2.2.2), .int (nI (rd_val tx n ((((rd_mon tx n 13 0 ((pp + 1 + sv_len 4) + 1) nu mo).2.1) + 1 + sv_len 5) + 1))), .int (nI (rd_val tx n (((rd_end tx n ((((rd_mon tx n 13 0 ((pp + 1 + sv_len 4) + 1) nu mo).2.1) + 1 + sv_len 5) + 1)) + 1 + sv_len 6) + 1))), .int 1])), (sa, .inl (cI, 120, .inl tx))] := hD
                      refine lv_iconst (v := 1) hx hb d_Rd_takeClauses_107 (by decide) ?_
                      rw [hQ]
                      have z9 : rd_cl tx n pp nu mo jo vo re = (true, (rd_end tx n (((rd_end tx n ((((rd_mon tx n 13 0 ((pp + 1 + sv_len 4) + 1) nu mo).2.1) + 1 + sv_len 5) + 1)) + 1 + sv_len 6) + 1)) + 1 + sv_len 7, (nI (rd_val tx n (((rd_end tx n ((((rd_mon tx n 13 0 ((pp + 1 + sv_len 4) + 1) nu mo).2.1) + 1 + sv_len 5) + 1)) + 1 + sv_len 6) + 1))), ((rd_mon tx n 13 0 ((pp + 1 + sv_len 4) + 1) nu mo).2.2.2), (nI (rd_val tx n ((((rd_mon tx n 13 0 ((pp + 1 + sv_len 4) + 1) nu mo).2.1) + 1 + sv_len 5) + 1))), (nI (rd_val tx n (((rd_end tx n ((((rd_mon tx n 13 0 ((pp + 1 + sv_len 4) + 1) nu mo).2.1) + 1 + sv_len 5) + 1)) + 1 + sv_len 6) + 1))), true) := by simp only [rd_cl, rd_c1, rd_c2, rd_c3, hb_3, hb_10, hb_17, hb_28, hb_35, hb_45, hb_64, hb_71, hb_81, hb_101, cond_true, cond_false]
                      have q9 : (1 : Int32) = bo_I ((rd_cl tx n pp nu mo jo vo re).1) := by rw [z9]; rfl
                      have e9 : ([(rd, .inr (3, [.ref sa, .int (nI n), .int (nI ((rd_cl tx n pp nu mo jo vo re).2.1)), .int ((rd_cl tx n pp nu mo jo vo re).2.2.1), .int st, .int ((rd_cl tx n pp nu mo jo vo re).2.2.2.1), .int ((rd_cl tx n pp nu mo jo vo re).2.2.2.2.1), .int ((rd_cl tx n pp nu mo jo vo re).2.2.2.2.2.1), .int (bo_I ((rd_cl tx n pp nu mo jo vo re).2.2.2.2.2.2))])), (sa, .inl (cI, 120, .inl tx))] : va_W) = [(rd, .inr (3, [.ref sa, .int (nI n), .int (nI ((rd_end tx n (((rd_end tx n ((((rd_mon tx n 13 0 ((pp + 1 + sv_len 4) + 1) nu mo).2.1) + 1 + sv_len 5) + 1)) + 1 + sv_len 6) + 1)) + 1 + sv_len 7)), .int (nI (rd_val tx n (((rd_end tx n ((((rd_mon tx n 13 0 ((pp + 1 + sv_len 4) + 1) nu mo).2.1) + 1 + sv_len 5) + 1)) + 1 + sv_len 6) + 1))), .int st, .int ((rd_mon tx n 13 0 ((pp + 1 + sv_len 4) + 1) nu mo).2.2.2), .int (nI (rd_val tx n ((((rd_mon tx n 13 0 ((pp + 1 + sv_len 4) + 1) nu mo).2.1) + 1 + sv_len 5) + 1))), .int (nI (rd_val tx n (((rd_end tx n ((((rd_mon tx n 13 0 ((pp + 1 + sv_len 4) + 1) nu mo).2.1) + 1 + sv_len 5) + 1)) + 1 + sv_len 6) + 1))), .int 1])), (sa, .inl (cI, 120, .inl tx))] := by rw [z9] <;> rfl
                      exact W.zret (v := 1) hx hb hr rfl (fun t ht hW => ⟨⟨_, (), rfl, q9, by rw [ht, e9]; exact hP, va_K.moved hW.alike hK, by rw [e9]; exact hD⟩, hS.F ht⟩) hS.2.2 d_Rd_takeClauses_108

set_option maxHeartbeats 4000000 in
set_option maxRecDepth 100000 in
/-- takeEnd -/
theorem c_Rd_takeEnd (l : Launch) (dC : Nat → ClassId) (dI : Nat → Nat → Nat) (sz : Nat) (rd : Nat) (sa : Nat) (cI : ClassId) (tx : Nat → Int32) (n : Nat) (pp : Nat) (nu : Int32) (st : Int32) (mo : Int32) (jo : Int32) (vo : Int32) (re : Bool) (hn : n ≤ 120) (hp : pp ≤ n) : Met l y_Rd_takeEnd w_Rd_takeEnd ({ frames := 3, cells := 0, slots := 0, locals := 61 }) (va_Pc [.ref rd] (wy_M (dC, dI) ga_cl [(rd, .inr (3, [.ref sa, .int (nI n), .int (nI pp), .int nu, .int st, .int mo, .int jo, .int vo, .int (bo_I re)])), (sa, .inl (cI, 120, .inl tx))] [(cI, .int)] sz)) (va_Qi (fun (r : Int32) (_ : Unit) => r = bo_I (decide (pp = n))) (fun _ => wy_N (dC, dI) ga_cl [(cI, .int)] (va_A [(rd, .inr (3, [.ref sa, .int (nI n), .int (nI pp), .int nu, .int st, .int mo, .int jo, .int vo, .int (bo_I re)])), (sa, .inl (cI, 120, .inl tx))] sz) [(rd, .inr (3, [.ref sa, .int (nI n), .int (nI (cond (decide (pp = n)) pp (cond (rd_sp tx n pp) (pp + 1) pp))), .int nu, .int st, .int mo, .int jo, .int vo, .int (bo_I re)])), (sa, .inl (cI, 120, .inl tx))]) (va_A [(rd, .inr (3, [.ref sa, .int (nI n), .int (nI pp), .int nu, .int st, .int mo, .int jo, .int vo, .int (bo_I re)])), (sa, .inl (cI, 120, .inl tx))] sz)) 0 0 (va_A [(rd, .inr (3, [.ref sa, .int (nI n), .int (nI pp), .int nu, .int st, .int mo, .int jo, .int vo, .int (bo_I re)])), (sa, .inl (cI, 120, .inl tx))] sz) := by
  refine Met.ofW (cc := b_Rd_takeEnd) (maxL := 1) (ret := (some .boolean)) (by decide) rfl ?_
  intro p e s m args below meth c s₁ B hml hv
  obtain ⟨rfl, hsz, hP, hK, hN, hD0⟩ := hv
  have hx := B.exec
  have hb := B.bytes
  have hr := B.returns
  have hts : ∀ w ∈ ga_tbl, w.before _ s = true := fun w h => atoms_spec (ws := w_Rd_takeEnd) B.pre w (List.mem_cons_of_mem _ h)
  have hown : s.vm.findClass "PatternText$PatternReader" = some m.cls := findClass_of_methodNamed B.named
  have hlocks := B.notSynchronized
  subst hsz
  have hD := hD0.self (sz := s.heap.size)
  generalize hAe : va_A [(rd, .inr (3, [.ref sa, .int (nI n), .int (nI pp), .int nu, .int st, .int mo, .int jo, .int vo, .int (bo_I re)])), (sa, .inl (cI, 120, .inl tx))] s.heap.size = A at hD ⊢
  have hA : ∀ q : Nat, s.heap.size ≤ q → A q := fun q h => by rw [← hAe]; exact Or.inr h
  have hS : va_S A s.heap s.heap [] := va_S.rf
  have hl := lv_entry ([.ref rd]) (n := 1) (Nat.le_of_ble_eq_true rfl)
  rw [lg_entry_eq]
  generalize (lg_sl ([.ref rd]) ++ List.replicate (1 - (lg_sl ([.ref rd])).length) Slot.unset).toArray = ls at hl ⊢
  have hl : lv_has ls 1 [(0, .ref rd)] := hl
  obtain ⟨Q0, hQ⟩ : ∃ Q0 : State → Prop, Q0 = MQ below (va_Qi (fun (r : Int32) (_ : Unit) => r = bo_I (decide (pp = n))) (fun _ => wy_N (dC, dI) ga_cl [(cI, .int)] A [(rd, .inr (3, [.ref sa, .int (nI n), .int (nI (cond (decide (pp = n)) pp (cond (rd_sp tx n pp) (pp + 1) pp))), .int nu, .int st, .int mo, .int jo, .int vo, .int (bo_I re)])), (sa, .inl (cI, 120, .inl tx))]) A) ([.ref rd] : List Value).toArray s 0 0 A := ⟨_, rfl⟩
  show W p l e ({ frames := 3, cells := 0, slots := 0, locals := 61 }) s m ([.ref rd] : List Value).toArray below meth c s.heap [] 0 0 (MQ below (va_Qi (fun (r : Int32) (_ : Unit) => r = bo_I (decide (pp = n))) (fun _ => wy_N (dC, dI) ga_cl [(cI, .int)] A [(rd, .inr (3, [.ref sa, .int (nI n), .int (nI (cond (decide (pp = n)) pp (cond (rd_sp tx n pp) (pp + 1) pp))), .int nu, .int st, .int mo, .int jo, .int vo, .int (bo_I re)])), (sa, .inl (cI, 120, .inl tx))]) A) ([.ref rd] : List Value).toArray s 0 0 A) (F0 m 0 ls [])
  rw [← hQ]
  refine lv_aload_n hx hb d_Rd_takeEnd_0 rfl (lv_at hl 0 rfl) ?_
  refine va_get (D := (dC, dI)) (ci := 3) (v := .int (nI pp)) (C := "PatternText$PatternReader") (T := F_Rd) (N := 9) hx hb hts iw_Rd hown hK hP 0 rfl rfl 2 (by decide) (hts _ kw_66) (fun _ h9 => h9) rfl d_Rd_takeEnd_1 ?_
  refine lv_aload_n hx hb d_Rd_takeEnd_4 rfl (lv_at hl 0 rfl) ?_
  refine va_get (D := (dC, dI)) (ci := 3) (v := .int (nI n)) (C := "PatternText$PatternReader") (T := F_Rd) (N := 9) hx hb hts iw_Rd hown hK hP 0 rfl rfl 1 (by decide) (hts _ kw_65) (fun _ h9 => h9) rfl d_Rd_takeEnd_5 ?_
  refine wy_icmp_ne (tgt := 13) hx hb pp n (by omega) (by omega) d_Rd_takeEnd_8 (by decide) (fun c_8 => ?_) (fun c_8 => ?_)
  · refine lv_aload_n hx hb d_Rd_takeEnd_13 rfl (lv_at hl 0 rfl) ?_
    refine wy_calli (wr := []) (w1 := [(rd, .inr (3, [.ref sa, .int (nI n), .int (nI (cond (rd_sp tx n pp) (pp + 1) pp)), .int nu, .int st, .int mo, .int jo, .int vo, .int (bo_I re)])), (sa, .inl (cI, 120, .inl tx))]) (va_runV (As := []) (rest := []) ⟨hx, hb, hml, hown, hts⟩ (c_Rd_takeSpace l dC dI s.heap.size rd sa cI tx n pp nu st mo jo vo re (by omega) (by omega)) (cwV 0 hts (ga_V kw_254 kw_256 kw_3 kw_35 (ga_in kw_257)) rfl rfl rfl (by decide +kernel) ⟨Nat.le_of_ble_eq_true rfl, Nat.le_of_ble_eq_true rfl⟩) (wy_mreV 0 (hP.sub (ws' := [(rd, .inr (3, [.ref sa, .int (nI n), .int (nI pp), .int nu, .int st, .int mo, .int jo, .int vo, .int (bo_I re)])), (sa, .inl (cI, 120, .inl tx))]) [0, 1] rfl) (hK.sub (tys' := [(cI, .int)]) [0] rfl) hN (hD.sub (ws' := [(rd, .inr (3, [.ref sa, .int (nI n), .int (nI pp), .int nu, .int st, .int mo, .int jo, .int vo, .int (bo_I re)])), (sa, .inl (cI, 120, .inl tx))]) [0, 1] (by decide) rfl) (ci := 3) rfl rfl rfl) rfl rfl hl.1 rfl (lv_room (Nat.le_of_ble_eq_true rfl)) d_Rd_takeEnd_14 ⟨Nat.le_of_ble_eq_true rfl, Nat.le_of_ble_eq_true rfl⟩) hP hD hS hA [0, 1] [] rfl rfl (by decide) (by decide) (fun H locs hP hD hS => ?_)
    have hP := hP.sub (ws' := [(rd, .inr (3, [.ref sa, .int (nI n), .int (nI (cond (rd_sp tx n pp) (pp + 1) pp)), .int nu, .int st, .int mo, .int jo, .int vo, .int (bo_I re)])), (sa, .inl (cI, 120, .inl tx))]) [0, 1] rfl
    have hD := hD.sub (ws' := [(rd, .inr (3, [.ref sa, .int (nI n), .int (nI (cond (rd_sp tx n pp) (pp + 1) pp)), .int nu, .int st, .int mo, .int jo, .int vo, .int (bo_I re)])), (sa, .inl (cI, 120, .inl tx))]) [0, 1] (by decide) rfl
    rcases hb_14 : rd_sp tx n pp with _ | _
    · rw [hb_14] at hP hD
      have hP : va_P (dC, dI) ga_cl [(rd, .inr (3, [.ref sa, .int (nI n), .int (nI pp), .int nu, .int st, .int mo, .int jo, .int vo, .int (bo_I re)])), (sa, .inl (cI, 120, .inl tx))] H := hP
      have hD : va_D A [(rd, .inr (3, [.ref sa, .int (nI n), .int (nI pp), .int nu, .int st, .int mo, .int jo, .int vo, .int (bo_I re)])), (sa, .inl (cI, 120, .inl tx))] := hD
      refine lv_pop hx hb d_Rd_takeEnd_17 rfl ?_
      refine lv_iconst (v := 0) hx hb d_Rd_takeEnd_18 (by decide) ?_
      rw [hQ]
      have z9 : decide (pp = n) = false := by first | exact decide_eq_true c_8 | exact decide_eq_false c_8
      have q9 : (0 : Int32) = bo_I (decide (pp = n)) := by rw [z9]; rfl
      have e9 : ([(rd, .inr (3, [.ref sa, .int (nI n), .int (nI (cond (decide (pp = n)) pp (cond (rd_sp tx n pp) (pp + 1) pp))), .int nu, .int st, .int mo, .int jo, .int vo, .int (bo_I re)])), (sa, .inl (cI, 120, .inl tx))] : va_W) = [(rd, .inr (3, [.ref sa, .int (nI n), .int (nI pp), .int nu, .int st, .int mo, .int jo, .int vo, .int (bo_I re)])), (sa, .inl (cI, 120, .inl tx))] := by rw [z9, hb_14]; rfl
      exact W.zret (v := 0) hx hb hr rfl (fun t ht hW => ⟨⟨_, (), rfl, q9, by rw [ht, e9]; exact hP, va_K.moved hW.alike hK, by rw [e9]; exact hD⟩, hS.F ht⟩) hS.2.2 d_Rd_takeEnd_19
    · rw [hb_14] at hP hD
      have hP : va_P (dC, dI) ga_cl [(rd, .inr (3, [.ref sa, .int (nI n), .int (nI (pp + 1)), .int nu, .int st, .int mo, .int jo, .int vo, .int (bo_I re)])), (sa, .inl (cI, 120, .inl tx))] H := hP
      have hD : va_D A [(rd, .inr (3, [.ref sa, .int (nI n), .int (nI (pp + 1)), .int nu, .int st, .int mo, .int jo, .int vo, .int (bo_I re)])), (sa, .inl (cI, 120, .inl tx))] := hD
      refine lv_pop hx hb d_Rd_takeEnd_17 rfl ?_
      refine lv_iconst (v := 0) hx hb d_Rd_takeEnd_18 (by decide) ?_
      rw [hQ]
      have z9 : decide (pp = n) = false := by first | exact decide_eq_true c_8 | exact decide_eq_false c_8
      have q9 : (0 : Int32) = bo_I (decide (pp = n)) := by rw [z9]; rfl
      have e9 : ([(rd, .inr (3, [.ref sa, .int (nI n), .int (nI (cond (decide (pp = n)) pp (cond (rd_sp tx n pp) (pp + 1) pp))), .int nu, .int st, .int mo, .int jo, .int vo, .int (bo_I re)])), (sa, .inl (cI, 120, .inl tx))] : va_W) = [(rd, .inr (3, [.ref sa, .int (nI n), .int (nI (pp + 1)), .int nu, .int st, .int mo, .int jo, .int vo, .int (bo_I re)])), (sa, .inl (cI, 120, .inl tx))] := by rw [z9, hb_14]; rfl
      exact W.zret (v := 0) hx hb hr rfl (fun t ht hW => ⟨⟨_, (), rfl, q9, by rw [ht, e9]; exact hP, va_K.moved hW.alike hK, by rw [e9]; exact hD⟩, hS.F ht⟩) hS.2.2 d_Rd_takeEnd_19
  · refine lv_iconst (v := 1) hx hb d_Rd_takeEnd_11 (by decide) ?_
    rw [hQ]
    have z9 : decide (pp = n) = true := by first | exact decide_eq_true c_8 | exact decide_eq_false c_8
    have q9 : (1 : Int32) = bo_I (decide (pp = n)) := by rw [z9]; rfl
    have e9 : ([(rd, .inr (3, [.ref sa, .int (nI n), .int (nI (cond (decide (pp = n)) pp (cond (rd_sp tx n pp) (pp + 1) pp))), .int nu, .int st, .int mo, .int jo, .int vo, .int (bo_I re)])), (sa, .inl (cI, 120, .inl tx))] : va_W) = [(rd, .inr (3, [.ref sa, .int (nI n), .int (nI pp), .int nu, .int st, .int mo, .int jo, .int vo, .int (bo_I re)])), (sa, .inl (cI, 120, .inl tx))] := by rw [z9]; rfl
    exact W.zret (v := 1) hx hb hr rfl (fun t ht hW => ⟨⟨_, (), rfl, q9, by rw [ht, e9]; exact hP, va_K.moved hW.alike hK, by rw [e9]; exact hD⟩, hS.F ht⟩) hS.2.2 d_Rd_takeEnd_12

set_option maxHeartbeats 4000000 in
set_option maxRecDepth 100000 in
/-- collect -/
theorem c_Rd_collect (l : Launch) (dC : Nat → ClassId) (dI : Nat → Nat → Nat) (sz : Nat) (rd : Nat) (sa : Nat) (cI : ClassId) (tx : Nat → Int32) (n : Nat) (pv : Int32) (nu : Int32) (st : Int32) (mo : Int32) (jo : Int32) (vo : Int32) (re : Bool) (x : Int32) (hn : n ≤ 120) : Met l y_Rd_collect w_Rd_collect ({ frames := 0, cells := 0, slots := 0, locals := 0 }) (va_Pc [.ref rd, .int x] (wy_M (dC, dI) ga_cl [(rd, .inr (3, [.ref sa, .int (nI n), .int pv, .int nu, .int st, .int mo, .int jo, .int vo, .int (bo_I re)])), (sa, .inl (cI, 120, .inl tx))] [(cI, .int)] sz)) (va_Qv (fun (_ : Unit) => True) (fun _ => wy_N (dC, dI) ga_cl [(cI, .int)] (va_A [(rd, .inr (3, [.ref sa, .int (nI n), .int pv, .int nu, .int st, .int mo, .int jo, .int vo, .int (bo_I re)])), (sa, .inl (cI, 120, .inl tx))] sz) [(rd, .inr (3, [.ref sa, .int (nI (if n < 120 then n + 1 else n)), .int pv, .int nu, .int st, .int mo, .int jo, .int vo, .int (bo_I re)])), (sa, .inl (cI, 120, .inl (if n < 120 then upd tx n x else tx)))]) (va_A [(rd, .inr (3, [.ref sa, .int (nI n), .int pv, .int nu, .int st, .int mo, .int jo, .int vo, .int (bo_I re)])), (sa, .inl (cI, 120, .inl tx))] sz)) 0 0 (va_A [(rd, .inr (3, [.ref sa, .int (nI n), .int pv, .int nu, .int st, .int mo, .int jo, .int vo, .int (bo_I re)])), (sa, .inl (cI, 120, .inl tx))] sz) := by
  refine Met.ofW (cc := b_Rd_collect) (maxL := 2) (ret := none) (by decide) rfl ?_
  intro p e s m args below meth c s₁ B hml hv
  obtain ⟨rfl, hsz, hP, hK, hN, hD0⟩ := hv
  have hx := B.exec
  have hb := B.bytes
  have hr := B.returns
  have hts : ∀ w ∈ ga_tbl, w.before _ s = true := fun w h => atoms_spec (ws := w_Rd_collect) B.pre w (List.mem_cons_of_mem _ h)
  have hown : s.vm.findClass "PatternText$PatternReader" = some m.cls := findClass_of_methodNamed B.named
  have hlocks := B.notSynchronized
  subst hsz
  have hD := hD0.self (sz := s.heap.size)
  generalize hAe : va_A [(rd, .inr (3, [.ref sa, .int (nI n), .int pv, .int nu, .int st, .int mo, .int jo, .int vo, .int (bo_I re)])), (sa, .inl (cI, 120, .inl tx))] s.heap.size = A at hD ⊢
  have hA : ∀ q : Nat, s.heap.size ≤ q → A q := fun q h => by rw [← hAe]; exact Or.inr h
  have hS : va_S A s.heap s.heap [] := va_S.rf
  have hl := lv_entry ([.ref rd, .int x]) (n := 2) (Nat.le_of_ble_eq_true rfl)
  rw [lg_entry_eq]
  generalize (lg_sl ([.ref rd, .int x]) ++ List.replicate (2 - (lg_sl ([.ref rd, .int x])).length) Slot.unset).toArray = ls at hl ⊢
  have hl : lv_has ls 2 [(0, .ref rd), (1, .int x)] := hl
  obtain ⟨Q0, hQ⟩ : ∃ Q0 : State → Prop, Q0 = MQ below (va_Qv (fun (_ : Unit) => True) (fun _ => wy_N (dC, dI) ga_cl [(cI, .int)] A [(rd, .inr (3, [.ref sa, .int (nI (if n < 120 then n + 1 else n)), .int pv, .int nu, .int st, .int mo, .int jo, .int vo, .int (bo_I re)])), (sa, .inl (cI, 120, .inl (if n < 120 then upd tx n x else tx)))]) A) ([.ref rd, .int x] : List Value).toArray s 0 0 A := ⟨_, rfl⟩
  show W p l e ({ frames := 0, cells := 0, slots := 0, locals := 0 }) s m ([.ref rd, .int x] : List Value).toArray below meth c s.heap [] 0 0 (MQ below (va_Qv (fun (_ : Unit) => True) (fun _ => wy_N (dC, dI) ga_cl [(cI, .int)] A [(rd, .inr (3, [.ref sa, .int (nI (if n < 120 then n + 1 else n)), .int pv, .int nu, .int st, .int mo, .int jo, .int vo, .int (bo_I re)])), (sa, .inl (cI, 120, .inl (if n < 120 then upd tx n x else tx)))]) A) ([.ref rd, .int x] : List Value).toArray s 0 0 A) (F0 m 0 ls [])
  rw [← hQ]
  refine lv_aload_n hx hb d_Rd_collect_0 rfl (lv_at hl 0 rfl) ?_
  refine va_get (D := (dC, dI)) (ci := 3) (v := .int (nI n)) (C := "PatternText$PatternReader") (T := F_Rd) (N := 9) hx hb hts iw_Rd hown hK hP 0 rfl rfl 1 (by decide) (hts _ kw_65) (fun _ h9 => h9) rfl d_Rd_collect_1 ?_
  refine lv_bipush (v := 120) hx hb d_Rd_collect_4 (by decide) ?_
  refine wy_icmp_ge (tgt := 29) hx hb n 120 (by omega) (by omega) d_Rd_collect_6 (by decide) (fun c_6 => ?_) (fun c_6 => ?_)
  · rw [hQ]
    have e9 : ([(rd, .inr (3, [.ref sa, .int (nI (if n < 120 then n + 1 else n)), .int pv, .int nu, .int st, .int mo, .int jo, .int vo, .int (bo_I re)])), (sa, .inl (cI, 120, .inl (if n < 120 then upd tx n x else tx)))] : va_W) = [(rd, .inr (3, [.ref sa, .int (nI n), .int pv, .int nu, .int st, .int mo, .int jo, .int vo, .int (bo_I re)])), (sa, .inl (cI, 120, .inl tx))] := by first | rw [if_neg (by omega), if_neg (by omega)] | rw [if_pos c_6, if_pos c_6]
    exact W.vret hx hb hr (fun t ht hW => ⟨⟨(), rfl, trivial, by rw [ht, e9]; exact hP, va_K.moved hW.alike hK, by rw [e9]; exact hD⟩, hS.F ht⟩) hS.2.2 d_Rd_collect_29
  · refine lv_aload_n hx hb d_Rd_collect_9 rfl (lv_at hl 0 rfl) ?_
    refine va_get (D := (dC, dI)) (ci := 3) (v := .ref sa) (C := "PatternText$PatternReader") (T := F_Rd) (N := 9) hx hb hts iw_Rd hown hK hP 0 rfl rfl 0 (by decide) (hts _ kw_64) (fun _ h9 => h9) rfl d_Rd_collect_10 ?_
    refine lv_aload_n hx hb d_Rd_collect_13 rfl (lv_at hl 0 rfl) ?_
    refine va_get (D := (dC, dI)) (ci := 3) (v := .int (nI n)) (C := "PatternText$PatternReader") (T := F_Rd) (N := 9) hx hb hts iw_Rd hown hK hP 0 rfl rfl 1 (by decide) (hts _ kw_65) (fun _ h9 => h9) rfl d_Rd_collect_14 ?_
    refine lv_iload_n hx hb d_Rd_collect_17 rfl (lv_at hl 1 rfl) ?_
    refine wy_iast hx hb hK hP hD hS 1 0 n rfl rfl (by omega) (by omega) d_Rd_collect_18 (fun H locs hP hD hS => ?_)
    have hP : va_P (dC, dI) ga_cl [(rd, .inr (3, [.ref sa, .int (nI n), .int pv, .int nu, .int st, .int mo, .int jo, .int vo, .int (bo_I re)])), (sa, .inl (cI, 120, .inl (upd tx n x)))] H := hP
    have hD : va_D A [(rd, .inr (3, [.ref sa, .int (nI n), .int pv, .int nu, .int st, .int mo, .int jo, .int vo, .int (bo_I re)])), (sa, .inl (cI, 120, .inl (upd tx n x)))] := hD
    refine lv_aload_n hx hb d_Rd_collect_19 rfl (lv_at hl 0 rfl) ?_
    refine lv_dup hx hb d_Rd_collect_20 rfl ?_
    refine va_get (D := (dC, dI)) (ci := 3) (v := .int (nI n)) (C := "PatternText$PatternReader") (T := F_Rd) (N := 9) hx hb hts iw_Rd hown hK hP 0 rfl rfl 1 (by decide) (hts _ kw_65) (fun _ h9 => h9) rfl d_Rd_collect_21 ?_
    refine lv_iconst (v := 1) hx hb d_Rd_collect_24 (by decide) ?_
    refine wy_iadd hx hb n 1 d_Rd_collect_25 ?_
    refine va_put (D := (dC, dI)) (ci := 3) (v := .int (nI (n + 1))) (ty := .int) (C := "PatternText$PatternReader") (T := F_Rd) (N := 9) hx hb hts iw_Rd t_Rd t_Rd_ok n_Rd hown hK hP hD hS 0 rfl rfl 1 (by decide) (hts _ kw_65) (fun _ h9 => h9) rfl (by decide +kernel) rfl rfl (Nat.le_of_ble_eq_true rfl) d_Rd_collect_26 (fun H locs hP hD hS => ?_)
    have hP : va_P (dC, dI) ga_cl [(rd, .inr (3, [.ref sa, .int (nI (n + 1)), .int pv, .int nu, .int st, .int mo, .int jo, .int vo, .int (bo_I re)])), (sa, .inl (cI, 120, .inl (upd tx n x)))] H := hP
    have hD : va_D A [(rd, .inr (3, [.ref sa, .int (nI (n + 1)), .int pv, .int nu, .int st, .int mo, .int jo, .int vo, .int (bo_I re)])), (sa, .inl (cI, 120, .inl (upd tx n x)))] := hD
    rw [hQ]
    have e9 : ([(rd, .inr (3, [.ref sa, .int (nI (if n < 120 then n + 1 else n)), .int pv, .int nu, .int st, .int mo, .int jo, .int vo, .int (bo_I re)])), (sa, .inl (cI, 120, .inl (if n < 120 then upd tx n x else tx)))] : va_W) = [(rd, .inr (3, [.ref sa, .int (nI (n + 1)), .int pv, .int nu, .int st, .int mo, .int jo, .int vo, .int (bo_I re)])), (sa, .inl (cI, 120, .inl (upd tx n x)))] := by first | rw [if_neg (by omega), if_neg (by omega)] | rw [if_pos c_6, if_pos c_6]
    exact W.vret hx hb hr (fun t ht hW => ⟨⟨(), rfl, trivial, by rw [ht, e9]; exact hP, va_K.moved hW.alike hK, by rw [e9]; exact hD⟩, hS.F ht⟩) hS.2.2 d_Rd_collect_29

set_option maxHeartbeats 4000000 in
set_option maxRecDepth 100000 in
/-- forget -/
theorem c_Rd_forget (l : Launch) (dC : Nat → ClassId) (dI : Nat → Nat → Nat) (sz : Nat) (rd : Nat) (sa : Nat) (cI : ClassId) (tx : Nat → Int32) (n : Nat) (pv : Int32) (nu : Int32) (st : Int32) (mo : Int32) (jo : Int32) (vo : Int32) (re : Bool) : Met l y_Rd_forget w_Rd_forget ({ frames := 0, cells := 0, slots := 0, locals := 0 }) (va_Pc [.ref rd] (wy_M (dC, dI) ga_cl [(rd, .inr (3, [.ref sa, .int (nI n), .int pv, .int nu, .int st, .int mo, .int jo, .int vo, .int (bo_I re)])), (sa, .inl (cI, 120, .inl tx))] [(cI, .int)] sz)) (va_Qv (fun (_ : Unit) => True) (fun _ => wy_N (dC, dI) ga_cl [(cI, .int)] (va_A [(rd, .inr (3, [.ref sa, .int (nI n), .int pv, .int nu, .int st, .int mo, .int jo, .int vo, .int (bo_I re)])), (sa, .inl (cI, 120, .inl tx))] sz) [(rd, .inr (3, [.ref sa, .int 0, .int pv, .int nu, .int st, .int mo, .int jo, .int vo, .int (bo_I re)])), (sa, .inl (cI, 120, .inl tx))]) (va_A [(rd, .inr (3, [.ref sa, .int (nI n), .int pv, .int nu, .int st, .int mo, .int jo, .int vo, .int (bo_I re)])), (sa, .inl (cI, 120, .inl tx))] sz)) 0 0 (va_A [(rd, .inr (3, [.ref sa, .int (nI n), .int pv, .int nu, .int st, .int mo, .int jo, .int vo, .int (bo_I re)])), (sa, .inl (cI, 120, .inl tx))] sz) := by
  refine Met.ofW (cc := b_Rd_forget) (maxL := 1) (ret := none) (by decide) rfl ?_
  intro p e s m args below meth c s₁ B hml hv
  obtain ⟨rfl, hsz, hP, hK, hN, hD0⟩ := hv
  have hx := B.exec
  have hb := B.bytes
  have hr := B.returns
  have hts : ∀ w ∈ ga_tbl, w.before _ s = true := fun w h => atoms_spec (ws := w_Rd_forget) B.pre w (List.mem_cons_of_mem _ h)
  have hown : s.vm.findClass "PatternText$PatternReader" = some m.cls := findClass_of_methodNamed B.named
  have hlocks := B.notSynchronized
  subst hsz
  have hD := hD0.self (sz := s.heap.size)
  generalize hAe : va_A [(rd, .inr (3, [.ref sa, .int (nI n), .int pv, .int nu, .int st, .int mo, .int jo, .int vo, .int (bo_I re)])), (sa, .inl (cI, 120, .inl tx))] s.heap.size = A at hD ⊢
  have hA : ∀ q : Nat, s.heap.size ≤ q → A q := fun q h => by rw [← hAe]; exact Or.inr h
  have hS : va_S A s.heap s.heap [] := va_S.rf
  have hl := lv_entry ([.ref rd]) (n := 1) (Nat.le_of_ble_eq_true rfl)
  rw [lg_entry_eq]
  generalize (lg_sl ([.ref rd]) ++ List.replicate (1 - (lg_sl ([.ref rd])).length) Slot.unset).toArray = ls at hl ⊢
  have hl : lv_has ls 1 [(0, .ref rd)] := hl
  obtain ⟨Q0, hQ⟩ : ∃ Q0 : State → Prop, Q0 = MQ below (va_Qv (fun (_ : Unit) => True) (fun _ => wy_N (dC, dI) ga_cl [(cI, .int)] A [(rd, .inr (3, [.ref sa, .int 0, .int pv, .int nu, .int st, .int mo, .int jo, .int vo, .int (bo_I re)])), (sa, .inl (cI, 120, .inl tx))]) A) ([.ref rd] : List Value).toArray s 0 0 A := ⟨_, rfl⟩
  show W p l e ({ frames := 0, cells := 0, slots := 0, locals := 0 }) s m ([.ref rd] : List Value).toArray below meth c s.heap [] 0 0 (MQ below (va_Qv (fun (_ : Unit) => True) (fun _ => wy_N (dC, dI) ga_cl [(cI, .int)] A [(rd, .inr (3, [.ref sa, .int 0, .int pv, .int nu, .int st, .int mo, .int jo, .int vo, .int (bo_I re)])), (sa, .inl (cI, 120, .inl tx))]) A) ([.ref rd] : List Value).toArray s 0 0 A) (F0 m 0 ls [])
  rw [← hQ]
  refine lv_aload_n hx hb d_Rd_forget_0 rfl (lv_at hl 0 rfl) ?_
  refine lv_iconst (v := 0) hx hb d_Rd_forget_1 (by decide) ?_
  refine va_put (D := (dC, dI)) (ci := 3) (v := .int 0) (ty := .int) (C := "PatternText$PatternReader") (T := F_Rd) (N := 9) hx hb hts iw_Rd t_Rd t_Rd_ok n_Rd hown hK hP hD hS 0 rfl rfl 1 (by decide) (hts _ kw_65) (fun _ h9 => h9) rfl (by decide +kernel) rfl rfl (Nat.le_of_ble_eq_true rfl) d_Rd_forget_2 (fun H locs hP hD hS => ?_)
  have hP : va_P (dC, dI) ga_cl [(rd, .inr (3, [.ref sa, .int 0, .int pv, .int nu, .int st, .int mo, .int jo, .int vo, .int (bo_I re)])), (sa, .inl (cI, 120, .inl tx))] H := hP
  have hD : va_D A [(rd, .inr (3, [.ref sa, .int 0, .int pv, .int nu, .int st, .int mo, .int jo, .int vo, .int (bo_I re)])), (sa, .inl (cI, 120, .inl tx))] := hD
  rw [hQ]
  have e9 : ([(rd, .inr (3, [.ref sa, .int 0, .int pv, .int nu, .int st, .int mo, .int jo, .int vo, .int (bo_I re)])), (sa, .inl (cI, 120, .inl tx))] : va_W) = [(rd, .inr (3, [.ref sa, .int 0, .int pv, .int nu, .int st, .int mo, .int jo, .int vo, .int (bo_I re)])), (sa, .inl (cI, 120, .inl tx))] := by rfl
  exact W.vret hx hb hr (fun t ht hW => ⟨⟨(), rfl, trivial, by rw [ht, e9]; exact hP, va_K.moved hW.alike hK, by rw [e9]; exact hD⟩, hS.F ht⟩) hS.2.2 d_Rd_forget_5

set_option maxHeartbeats 4000000 in
set_option maxRecDepth 100000 in
/-- understand -/
theorem c_Rd_understand (l : Launch) (dC : Nat → ClassId) (dI : Nat → Nat → Nat) (sz : Nat) (ad : Nat → Nat) (av : Nat → Nat) (rd : Nat) (sa : Nat) (cI : ClassId) (tx : Nat → Int32) (n : Nat) (pv : Int32) (nu : Int32) (st : Int32) (mo : Int32) (jo : Int32) (vo : Int32) (re : Bool) (hn : n ≤ 120) : Met l y_Rd_understand w_Rd_understand ({ frames := 7, cells := 0, slots := 0, locals := 150 }) (va_Pc [.ref rd] (wy_ME (dC, dI) ga_cl [(rd, .inr (3, [.ref sa, .int (nI n), .int pv, .int nu, .int st, .int mo, .int jo, .int vo, .int (bo_I re)])), (sa, .inl (cI, 120, .inl tx))] [(cI, .int)] sz ad av)) (va_Qi (fun (r : Int32) (_ : Unit) => r = bo_I ((rd_und tx n nu st).1)) (fun _ => wy_N (dC, dI) ga_cl [(cI, .int)] (va_A [(rd, .inr (3, [.ref sa, .int (nI n), .int pv, .int nu, .int st, .int mo, .int jo, .int vo, .int (bo_I re)])), (sa, .inl (cI, 120, .inl tx))] sz) [(rd, .inr (3, [.ref sa, .int (nI n), .int (nI ((rd_und tx n nu st).2.1)), .int ((rd_und tx n nu st).2.2.1), .int ((rd_und tx n nu st).2.2.2.1), .int ((rd_und tx n nu st).2.2.2.2.1), .int ((rd_und tx n nu st).2.2.2.2.2.1), .int ((rd_und tx n nu st).2.2.2.2.2.2.1), .int (bo_I ((rd_und tx n nu st).2.2.2.2.2.2.2))])), (sa, .inl (cI, 120, .inl tx))]) (va_A [(rd, .inr (3, [.ref sa, .int (nI n), .int pv, .int nu, .int st, .int mo, .int jo, .int vo, .int (bo_I re)])), (sa, .inl (cI, 120, .inl tx))] sz)) 0 0 (va_A [(rd, .inr (3, [.ref sa, .int (nI n), .int pv, .int nu, .int st, .int mo, .int jo, .int vo, .int (bo_I re)])), (sa, .inl (cI, 120, .inl tx))] sz) := by
  refine Met.ofW (cc := b_Rd_understand) (maxL := 1) (ret := (some .boolean)) (by decide) rfl ?_
  intro p e s m args below meth c s₁ B hml hv
  obtain ⟨rfl, hsz, hP, hK, hN, hE, hD0⟩ := hv
  have hx := B.exec
  have hb := B.bytes
  have hr := B.returns
  have hts : ∀ w ∈ ga_tbl, w.before _ s = true := fun w h => atoms_spec (ws := w_Rd_understand) B.pre w (List.mem_cons_of_mem _ h)
  have hown : s.vm.findClass "PatternText$PatternReader" = some m.cls := findClass_of_methodNamed B.named
  have hlocks := B.notSynchronized
  subst hsz
  have hD := hD0.self (sz := s.heap.size)
  generalize hAe : va_A [(rd, .inr (3, [.ref sa, .int (nI n), .int pv, .int nu, .int st, .int mo, .int jo, .int vo, .int (bo_I re)])), (sa, .inl (cI, 120, .inl tx))] s.heap.size = A at hD hE ⊢
  have hA : ∀ q : Nat, s.heap.size ≤ q → A q := fun q h => by rw [← hAe]; exact Or.inr h
  have hS : va_S A s.heap s.heap [] := va_S.rf
  have hl := lv_entry ([.ref rd]) (n := 1) (Nat.le_of_ble_eq_true rfl)
  rw [lg_entry_eq]
  generalize (lg_sl ([.ref rd]) ++ List.replicate (1 - (lg_sl ([.ref rd])).length) Slot.unset).toArray = ls at hl ⊢
  have hl : lv_has ls 1 [(0, .ref rd)] := hl
  obtain ⟨Q0, hQ⟩ : ∃ Q0 : State → Prop, Q0 = MQ below (va_Qi (fun (r : Int32) (_ : Unit) => r = bo_I ((rd_und tx n nu st).1)) (fun _ => wy_N (dC, dI) ga_cl [(cI, .int)] A [(rd, .inr (3, [.ref sa, .int (nI n), .int (nI ((rd_und tx n nu st).2.1)), .int ((rd_und tx n nu st).2.2.1), .int ((rd_und tx n nu st).2.2.2.1), .int ((rd_und tx n nu st).2.2.2.2.1), .int ((rd_und tx n nu st).2.2.2.2.2.1), .int ((rd_und tx n nu st).2.2.2.2.2.2.1), .int (bo_I ((rd_und tx n nu st).2.2.2.2.2.2.2))])), (sa, .inl (cI, 120, .inl tx))]) A) ([.ref rd] : List Value).toArray s 0 0 A := ⟨_, rfl⟩
  show W p l e ({ frames := 7, cells := 0, slots := 0, locals := 150 }) s m ([.ref rd] : List Value).toArray below meth c s.heap [] 0 0 (MQ below (va_Qi (fun (r : Int32) (_ : Unit) => r = bo_I ((rd_und tx n nu st).1)) (fun _ => wy_N (dC, dI) ga_cl [(cI, .int)] A [(rd, .inr (3, [.ref sa, .int (nI n), .int (nI ((rd_und tx n nu st).2.1)), .int ((rd_und tx n nu st).2.2.1), .int ((rd_und tx n nu st).2.2.2.1), .int ((rd_und tx n nu st).2.2.2.2.1), .int ((rd_und tx n nu st).2.2.2.2.2.1), .int ((rd_und tx n nu st).2.2.2.2.2.2.1), .int (bo_I ((rd_und tx n nu st).2.2.2.2.2.2.2))])), (sa, .inl (cI, 120, .inl tx))]) A) ([.ref rd] : List Value).toArray s 0 0 A) (F0 m 0 ls [])
  rw [← hQ]
  refine lv_aload_n hx hb d_Rd_understand_0 rfl (lv_at hl 0 rfl) ?_
  refine lv_iconst (v := 0) hx hb d_Rd_understand_1 (by decide) ?_
  refine va_put (D := (dC, dI)) (ci := 3) (v := .int 0) (ty := .int) (C := "PatternText$PatternReader") (T := F_Rd) (N := 9) hx hb hts iw_Rd t_Rd t_Rd_ok n_Rd hown hK hP hD hS 0 rfl rfl 2 (by decide) (hts _ kw_66) (fun _ h9 => h9) rfl (by decide +kernel) rfl rfl (Nat.le_of_ble_eq_true rfl) d_Rd_understand_2 (fun H locs hP hD hS => ?_)
  have hP : va_P (dC, dI) ga_cl [(rd, .inr (3, [.ref sa, .int (nI n), .int 0, .int nu, .int st, .int mo, .int jo, .int vo, .int (bo_I re)])), (sa, .inl (cI, 120, .inl tx))] H := hP
  have hD : va_D A [(rd, .inr (3, [.ref sa, .int (nI n), .int 0, .int nu, .int st, .int mo, .int jo, .int vo, .int (bo_I re)])), (sa, .inl (cI, 120, .inl tx))] := hD
  refine lv_aload_n hx hb d_Rd_understand_5 rfl (lv_at hl 0 rfl) ?_
  refine lv_iconst (v := 0) hx hb d_Rd_understand_6 (by decide) ?_
  refine va_put (D := (dC, dI)) (ci := 3) (v := .int 0) (ty := .int) (C := "PatternText$PatternReader") (T := F_Rd) (N := 9) hx hb hts iw_Rd t_Rd t_Rd_ok n_Rd hown hK hP hD hS 0 rfl rfl 5 (by decide) (hts _ kw_70) (fun _ h9 => h9) rfl (by decide +kernel) rfl rfl (Nat.le_of_ble_eq_true rfl) d_Rd_understand_7 (fun H locs hP hD hS => ?_)
  have hP : va_P (dC, dI) ga_cl [(rd, .inr (3, [.ref sa, .int (nI n), .int 0, .int nu, .int st, .int 0, .int jo, .int vo, .int (bo_I re)])), (sa, .inl (cI, 120, .inl tx))] H := hP
  have hD : va_D A [(rd, .inr (3, [.ref sa, .int (nI n), .int 0, .int nu, .int st, .int 0, .int jo, .int vo, .int (bo_I re)])), (sa, .inl (cI, 120, .inl tx))] := hD
  refine lv_aload_n hx hb d_Rd_understand_10 rfl (lv_at hl 0 rfl) ?_
  refine lv_iconst (v := 0) hx hb d_Rd_understand_11 (by decide) ?_
  refine va_put (D := (dC, dI)) (ci := 3) (v := .int 0) (ty := .int) (C := "PatternText$PatternReader") (T := F_Rd) (N := 9) hx hb hts iw_Rd t_Rd t_Rd_ok n_Rd hown hK hP hD hS 0 rfl rfl 6 (by decide) (hts _ kw_71) (fun _ h9 => h9) rfl (by decide +kernel) rfl rfl (Nat.le_of_ble_eq_true rfl) d_Rd_understand_12 (fun H locs hP hD hS => ?_)
  have hP : va_P (dC, dI) ga_cl [(rd, .inr (3, [.ref sa, .int (nI n), .int 0, .int nu, .int st, .int 0, .int 0, .int vo, .int (bo_I re)])), (sa, .inl (cI, 120, .inl tx))] H := hP
  have hD : va_D A [(rd, .inr (3, [.ref sa, .int (nI n), .int 0, .int nu, .int st, .int 0, .int 0, .int vo, .int (bo_I re)])), (sa, .inl (cI, 120, .inl tx))] := hD
  refine lv_aload_n hx hb d_Rd_understand_15 rfl (lv_at hl 0 rfl) ?_
  refine lv_iconst (v := 0) hx hb d_Rd_understand_16 (by decide) ?_
  refine va_put (D := (dC, dI)) (ci := 3) (v := .int 0) (ty := .int) (C := "PatternText$PatternReader") (T := F_Rd) (N := 9) hx hb hts iw_Rd t_Rd t_Rd_ok n_Rd hown hK hP hD hS 0 rfl rfl 7 (by decide) (hts _ kw_72) (fun _ h9 => h9) rfl (by decide +kernel) rfl rfl (Nat.le_of_ble_eq_true rfl) d_Rd_understand_17 (fun H locs hP hD hS => ?_)
  have hP : va_P (dC, dI) ga_cl [(rd, .inr (3, [.ref sa, .int (nI n), .int 0, .int nu, .int st, .int 0, .int 0, .int 0, .int (bo_I re)])), (sa, .inl (cI, 120, .inl tx))] H := hP
  have hD : va_D A [(rd, .inr (3, [.ref sa, .int (nI n), .int 0, .int nu, .int st, .int 0, .int 0, .int 0, .int (bo_I re)])), (sa, .inl (cI, 120, .inl tx))] := hD
  refine lv_aload_n hx hb d_Rd_understand_20 rfl (lv_at hl 0 rfl) ?_
  refine lv_iconst (v := 0) hx hb d_Rd_understand_21 (by decide) ?_
  refine va_put (D := (dC, dI)) (ci := 3) (v := .int 0) (ty := .boolean) (C := "PatternText$PatternReader") (T := F_Rd) (N := 9) hx hb hts iw_Rd t_Rd t_Rd_ok n_Rd hown hK hP hD hS 0 rfl rfl 8 (by decide) (hts _ kw_73) (fun _ h9 => h9) rfl (by decide +kernel) rfl rfl (Nat.le_of_ble_eq_true rfl) d_Rd_understand_22 (fun H locs hP hD hS => ?_)
  have hP : va_P (dC, dI) ga_cl [(rd, .inr (3, [.ref sa, .int (nI n), .int 0, .int nu, .int st, .int 0, .int 0, .int 0, .int 0])), (sa, .inl (cI, 120, .inl tx))] H := hP
  have hD : va_D A [(rd, .inr (3, [.ref sa, .int (nI n), .int 0, .int nu, .int st, .int 0, .int 0, .int 0, .int 0])), (sa, .inl (cI, 120, .inl tx))] := hD
  refine lv_aload_n hx hb d_Rd_understand_25 rfl (lv_at hl 0 rfl) ?_
  have hF_26 := va_free (wc := [(rd, .inr (3, [.ref sa, .int (nI n), .int 0, .int nu, .int st, .int 0, .int 0, .int 0, .int 0])), (sa, .inl (cI, 120, .inl tx))]) hD hS hA [0, 1] rfl
  refine wy_calli (wr := []) (w1 := [(rd, .inr (3, [.ref sa, .int (nI n), .int (nI ((rd_how tx n 0 nu st).2.1)), .int ((rd_how tx n 0 nu st).2.2.1), .int ((rd_how tx n 0 nu st).2.2.2), .int 0, .int 0, .int 0, .int (bo_I false)])), (sa, .inl (cI, 120, .inl tx))]) (va_runV (As := []) (rest := []) ⟨hx, hb, hml, hown, hts⟩ (c_Rd_takeHowOften l dC dI H.size ad av rd sa cI tx n 0 nu st 0 0 0 false (by omega) (by omega)) (cwV 0 hts (ga_V kw_190 kw_192 kw_0 kw_35 (ga_in kw_193)) rfl rfl rfl (by decide +kernel) ⟨Nat.le_of_ble_eq_true rfl, Nat.le_of_ble_eq_true rfl⟩) (wy_mreVE 0 (hP.sub (ws' := [(rd, .inr (3, [.ref sa, .int (nI n), .int 0, .int nu, .int st, .int 0, .int 0, .int 0, .int 0])), (sa, .inl (cI, 120, .inl tx))]) [0, 1] rfl) (hK.sub (tys' := [(cI, .int)]) [0] rfl) hN (hD.sub (ws' := [(rd, .inr (3, [.ref sa, .int (nI n), .int 0, .int nu, .int st, .int 0, .int 0, .int 0, .int 0])), (sa, .inl (cI, 120, .inl tx))]) [0, 1] (by decide) rfl) hE hS hF_26 (ci := 3) rfl rfl rfl) rfl rfl hl.1 rfl (lv_room (Nat.le_of_ble_eq_true rfl)) d_Rd_understand_26 ⟨Nat.le_of_ble_eq_true rfl, Nat.le_of_ble_eq_true rfl⟩) hP hD hS hA [0, 1] [] rfl rfl (by decide) (by decide) (fun H locs hP hD hS => ?_)
  have hP := hP.sub (ws' := [(rd, .inr (3, [.ref sa, .int (nI n), .int (nI ((rd_how tx n 0 nu st).2.1)), .int ((rd_how tx n 0 nu st).2.2.1), .int ((rd_how tx n 0 nu st).2.2.2), .int 0, .int 0, .int 0, .int (bo_I false)])), (sa, .inl (cI, 120, .inl tx))]) [0, 1] rfl
  have hD := hD.sub (ws' := [(rd, .inr (3, [.ref sa, .int (nI n), .int (nI ((rd_how tx n 0 nu st).2.1)), .int ((rd_how tx n 0 nu st).2.2.1), .int ((rd_how tx n 0 nu st).2.2.2), .int 0, .int 0, .int 0, .int (bo_I false)])), (sa, .inl (cI, 120, .inl tx))]) [0, 1] (by decide) rfl
  rcases hb_26 : (rd_how tx n 0 nu st).1 with _ | _
  · have hP : va_P (dC, dI) ga_cl [(rd, .inr (3, [.ref sa, .int (nI n), .int (nI ((rd_how tx n 0 nu st).2.1)), .int ((rd_how tx n 0 nu st).2.2.1), .int ((rd_how tx n 0 nu st).2.2.2), .int 0, .int 0, .int 0, .int (bo_I false)])), (sa, .inl (cI, 120, .inl tx))] H := hP
    have hD : va_D A [(rd, .inr (3, [.ref sa, .int (nI n), .int (nI ((rd_how tx n 0 nu st).2.1)), .int ((rd_how tx n 0 nu st).2.2.1), .int ((rd_how tx n 0 nu st).2.2.2), .int 0, .int 0, .int 0, .int (bo_I false)])), (sa, .inl (cI, 120, .inl tx))] := hD
    refine lv_if_eq (tgt := 50) hx hb d_Rd_understand_29 (by decide) (fun _ => ?_) (fun z9 => absurd z9 (by decide))
    refine lv_iconst (v := 0) hx hb d_Rd_understand_50 (by decide) ?_
    rw [hQ]
    have z9 : rd_und tx n nu st = (false, (rd_how tx n 0 nu st).2.1, (rd_how tx n 0 nu st).2.2.1, (rd_how tx n 0 nu st).2.2.2, 0, 0, 0, false) := by simp only [rd_und, hb_26, cond_true, cond_false]
    have q9 : (0 : Int32) = bo_I ((rd_und tx n nu st).1) := by rw [z9]; rfl
    have e9 : ([(rd, .inr (3, [.ref sa, .int (nI n), .int (nI ((rd_und tx n nu st).2.1)), .int ((rd_und tx n nu st).2.2.1), .int ((rd_und tx n nu st).2.2.2.1), .int ((rd_und tx n nu st).2.2.2.2.1), .int ((rd_und tx n nu st).2.2.2.2.2.1), .int ((rd_und tx n nu st).2.2.2.2.2.2.1), .int (bo_I ((rd_und tx n nu st).2.2.2.2.2.2.2))])), (sa, .inl (cI, 120, .inl tx))] : va_W) = [(rd, .inr (3, [.ref sa, .int (nI n), .int (nI ((rd_how tx n 0 nu st).2.1)), .int ((rd_how tx n 0 nu st).2.2.1), .int ((rd_how tx n 0 nu st).2.2.2), .int 0, .int 0, .int 0, .int (bo_I false)])), (sa, .inl (cI, 120, .inl tx))] := by rw [z9] <;> rfl
    exact W.zret (v := 0) hx hb hr rfl (fun t ht hW => ⟨⟨_, (), rfl, q9, by rw [ht, e9]; exact hP, va_K.moved hW.alike hK, by rw [e9]; exact hD⟩, hS.F ht⟩) hS.2.2 d_Rd_understand_51
  · have hP : va_P (dC, dI) ga_cl [(rd, .inr (3, [.ref sa, .int (nI n), .int (nI ((rd_how tx n 0 nu st).2.1)), .int ((rd_how tx n 0 nu st).2.2.1), .int ((rd_how tx n 0 nu st).2.2.2), .int 0, .int 0, .int 0, .int (bo_I false)])), (sa, .inl (cI, 120, .inl tx))] H := hP
    have hD : va_D A [(rd, .inr (3, [.ref sa, .int (nI n), .int (nI ((rd_how tx n 0 nu st).2.1)), .int ((rd_how tx n 0 nu st).2.2.1), .int ((rd_how tx n 0 nu st).2.2.2), .int 0, .int 0, .int 0, .int (bo_I false)])), (sa, .inl (cI, 120, .inl tx))] := hD
    have l_26 := rd_how_le (tx := tx) (nu := nu) (st := st) (Nat.zero_le n)
    refine lv_if_eq (tgt := 50) hx hb d_Rd_understand_29 (by decide) (fun z9 => absurd z9 (by decide)) (fun _ => ?_)
    refine lv_aload_n hx hb d_Rd_understand_32 rfl (lv_at hl 0 rfl) ?_
    have hF_33 := va_free (wc := [(rd, .inr (3, [.ref sa, .int (nI n), .int (nI ((rd_how tx n 0 nu st).2.1)), .int ((rd_how tx n 0 nu st).2.2.1), .int ((rd_how tx n 0 nu st).2.2.2), .int 0, .int 0, .int 0, .int (bo_I false)])), (sa, .inl (cI, 120, .inl tx))]) hD hS hA [0, 1] rfl
    refine wy_calli (wr := []) (w1 := [(rd, .inr (3, [.ref sa, .int (nI n), .int (nI ((rd_cl tx n ((rd_how tx n 0 nu st).2.1) ((rd_how tx n 0 nu st).2.2.1) 0 0 0 false).2.1)), .int ((rd_cl tx n ((rd_how tx n 0 nu st).2.1) ((rd_how tx n 0 nu st).2.2.1) 0 0 0 false).2.2.1), .int ((rd_how tx n 0 nu st).2.2.2), .int ((rd_cl tx n ((rd_how tx n 0 nu st).2.1) ((rd_how tx n 0 nu st).2.2.1) 0 0 0 false).2.2.2.1), .int ((rd_cl tx n ((rd_how tx n 0 nu st).2.1) ((rd_how tx n 0 nu st).2.2.1) 0 0 0 false).2.2.2.2.1), .int ((rd_cl tx n ((rd_how tx n 0 nu st).2.1) ((rd_how tx n 0 nu st).2.2.1) 0 0 0 false).2.2.2.2.2.1), .int (bo_I ((rd_cl tx n ((rd_how tx n 0 nu st).2.1) ((rd_how tx n 0 nu st).2.2.1) 0 0 0 false).2.2.2.2.2.2))])), (sa, .inl (cI, 120, .inl tx))]) (va_runV (As := []) (rest := []) ⟨hx, hb, hml, hown, hts⟩ (c_Rd_takeClauses l dC dI H.size ad av rd sa cI tx n ((rd_how tx n 0 nu st).2.1) ((rd_how tx n 0 nu st).2.2.1) ((rd_how tx n 0 nu st).2.2.2) 0 0 0 false (by omega) (by omega)) (cwV 0 hts (ga_V kw_275 kw_277 kw_6 kw_35 (ga_in kw_278)) rfl rfl rfl (by decide +kernel) ⟨Nat.le_of_ble_eq_true rfl, Nat.le_of_ble_eq_true rfl⟩) (wy_mreVE 0 (hP.sub (ws' := [(rd, .inr (3, [.ref sa, .int (nI n), .int (nI ((rd_how tx n 0 nu st).2.1)), .int ((rd_how tx n 0 nu st).2.2.1), .int ((rd_how tx n 0 nu st).2.2.2), .int 0, .int 0, .int 0, .int (bo_I false)])), (sa, .inl (cI, 120, .inl tx))]) [0, 1] rfl) (hK.sub (tys' := [(cI, .int)]) [0] rfl) hN (hD.sub (ws' := [(rd, .inr (3, [.ref sa, .int (nI n), .int (nI ((rd_how tx n 0 nu st).2.1)), .int ((rd_how tx n 0 nu st).2.2.1), .int ((rd_how tx n 0 nu st).2.2.2), .int 0, .int 0, .int 0, .int (bo_I false)])), (sa, .inl (cI, 120, .inl tx))]) [0, 1] (by decide) rfl) hE hS hF_33 (ci := 3) rfl rfl rfl) rfl rfl hl.1 rfl (lv_room (Nat.le_of_ble_eq_true rfl)) d_Rd_understand_33 ⟨Nat.le_of_ble_eq_true rfl, Nat.le_of_ble_eq_true rfl⟩) hP hD hS hA [0, 1] [] rfl rfl (by decide) (by decide) (fun H locs hP hD hS => ?_)
    have hP := hP.sub (ws' := [(rd, .inr (3, [.ref sa, .int (nI n), .int (nI ((rd_cl tx n ((rd_how tx n 0 nu st).2.1) ((rd_how tx n 0 nu st).2.2.1) 0 0 0 false).2.1)), .int ((rd_cl tx n ((rd_how tx n 0 nu st).2.1) ((rd_how tx n 0 nu st).2.2.1) 0 0 0 false).2.2.1), .int ((rd_how tx n 0 nu st).2.2.2), .int ((rd_cl tx n ((rd_how tx n 0 nu st).2.1) ((rd_how tx n 0 nu st).2.2.1) 0 0 0 false).2.2.2.1), .int ((rd_cl tx n ((rd_how tx n 0 nu st).2.1) ((rd_how tx n 0 nu st).2.2.1) 0 0 0 false).2.2.2.2.1), .int ((rd_cl tx n ((rd_how tx n 0 nu st).2.1) ((rd_how tx n 0 nu st).2.2.1) 0 0 0 false).2.2.2.2.2.1), .int (bo_I ((rd_cl tx n ((rd_how tx n 0 nu st).2.1) ((rd_how tx n 0 nu st).2.2.1) 0 0 0 false).2.2.2.2.2.2))])), (sa, .inl (cI, 120, .inl tx))]) [0, 1] rfl
    have hD := hD.sub (ws' := [(rd, .inr (3, [.ref sa, .int (nI n), .int (nI ((rd_cl tx n ((rd_how tx n 0 nu st).2.1) ((rd_how tx n 0 nu st).2.2.1) 0 0 0 false).2.1)), .int ((rd_cl tx n ((rd_how tx n 0 nu st).2.1) ((rd_how tx n 0 nu st).2.2.1) 0 0 0 false).2.2.1), .int ((rd_how tx n 0 nu st).2.2.2), .int ((rd_cl tx n ((rd_how tx n 0 nu st).2.1) ((rd_how tx n 0 nu st).2.2.1) 0 0 0 false).2.2.2.1), .int ((rd_cl tx n ((rd_how tx n 0 nu st).2.1) ((rd_how tx n 0 nu st).2.2.1) 0 0 0 false).2.2.2.2.1), .int ((rd_cl tx n ((rd_how tx n 0 nu st).2.1) ((rd_how tx n 0 nu st).2.2.1) 0 0 0 false).2.2.2.2.2.1), .int (bo_I ((rd_cl tx n ((rd_how tx n 0 nu st).2.1) ((rd_how tx n 0 nu st).2.2.1) 0 0 0 false).2.2.2.2.2.2))])), (sa, .inl (cI, 120, .inl tx))]) [0, 1] (by decide) rfl
    rcases hb_33 : (rd_cl tx n ((rd_how tx n 0 nu st).2.1) ((rd_how tx n 0 nu st).2.2.1) 0 0 0 false).1 with _ | _
    · have hP : va_P (dC, dI) ga_cl [(rd, .inr (3, [.ref sa, .int (nI n), .int (nI ((rd_cl tx n ((rd_how tx n 0 nu st).2.1) ((rd_how tx n 0 nu st).2.2.1) 0 0 0 false).2.1)), .int ((rd_cl tx n ((rd_how tx n 0 nu st).2.1) ((rd_how tx n 0 nu st).2.2.1) 0 0 0 false).2.2.1), .int ((rd_how tx n 0 nu st).2.2.2), .int ((rd_cl tx n ((rd_how tx n 0 nu st).2.1) ((rd_how tx n 0 nu st).2.2.1) 0 0 0 false).2.2.2.1), .int ((rd_cl tx n ((rd_how tx n 0 nu st).2.1) ((rd_how tx n 0 nu st).2.2.1) 0 0 0 false).2.2.2.2.1), .int ((rd_cl tx n ((rd_how tx n 0 nu st).2.1) ((rd_how tx n 0 nu st).2.2.1) 0 0 0 false).2.2.2.2.2.1), .int (bo_I ((rd_cl tx n ((rd_how tx n 0 nu st).2.1) ((rd_how tx n 0 nu st).2.2.1) 0 0 0 false).2.2.2.2.2.2))])), (sa, .inl (cI, 120, .inl tx))] H := hP
      have hD : va_D A [(rd, .inr (3, [.ref sa, .int (nI n), .int (nI ((rd_cl tx n ((rd_how tx n 0 nu st).2.1) ((rd_how tx n 0 nu st).2.2.1) 0 0 0 false).2.1)), .int ((rd_cl tx n ((rd_how tx n 0 nu st).2.1) ((rd_how tx n 0 nu st).2.2.1) 0 0 0 false).2.2.1), .int ((rd_how tx n 0 nu st).2.2.2), .int ((rd_cl tx n ((rd_how tx n 0 nu st).2.1) ((rd_how tx n 0 nu st).2.2.1) 0 0 0 false).2.2.2.1), .int ((rd_cl tx n ((rd_how tx n 0 nu st).2.1) ((rd_how tx n 0 nu st).2.2.1) 0 0 0 false).2.2.2.2.1), .int ((rd_cl tx n ((rd_how tx n 0 nu st).2.1) ((rd_how tx n 0 nu st).2.2.1) 0 0 0 false).2.2.2.2.2.1), .int (bo_I ((rd_cl tx n ((rd_how tx n 0 nu st).2.1) ((rd_how tx n 0 nu st).2.2.1) 0 0 0 false).2.2.2.2.2.2))])), (sa, .inl (cI, 120, .inl tx))] := hD
      refine lv_if_eq (tgt := 50) hx hb d_Rd_understand_36 (by decide) (fun _ => ?_) (fun z9 => absurd z9 (by decide))
      refine lv_iconst (v := 0) hx hb d_Rd_understand_50 (by decide) ?_
      rw [hQ]
      have z9 : rd_und tx n nu st = (false, (rd_cl tx n ((rd_how tx n 0 nu st).2.1) ((rd_how tx n 0 nu st).2.2.1) 0 0 0 false).2.1, (rd_cl tx n ((rd_how tx n 0 nu st).2.1) ((rd_how tx n 0 nu st).2.2.1) 0 0 0 false).2.2.1, ((rd_how tx n 0 nu st).2.2.2), (rd_cl tx n ((rd_how tx n 0 nu st).2.1) ((rd_how tx n 0 nu st).2.2.1) 0 0 0 false).2.2.2.1, (rd_cl tx n ((rd_how tx n 0 nu st).2.1) ((rd_how tx n 0 nu st).2.2.1) 0 0 0 false).2.2.2.2.1, (rd_cl tx n ((rd_how tx n 0 nu st).2.1) ((rd_how tx n 0 nu st).2.2.1) 0 0 0 false).2.2.2.2.2.1, (rd_cl tx n ((rd_how tx n 0 nu st).2.1) ((rd_how tx n 0 nu st).2.2.1) 0 0 0 false).2.2.2.2.2.2) := by simp only [rd_und, hb_26, hb_33, cond_true, cond_false]
      have q9 : (0 : Int32) = bo_I ((rd_und tx n nu st).1) := by rw [z9]; rfl
      have e9 : ([(rd, .inr (3, [.ref sa, .int (nI n), .int (nI ((rd_und tx n nu st).2.1)), .int ((rd_und tx n nu st).2.2.1), .int ((rd_und tx n nu st).2.2.2.1), .int ((rd_und tx n nu st).2.2.2.2.1), .int ((rd_und tx n nu st).2.2.2.2.2.1), .int ((rd_und tx n nu st).2.2.2.2.2.2.1), .int (bo_I ((rd_und tx n nu st).2.2.2.2.2.2.2))])), (sa, .inl (cI, 120, .inl tx))] : va_W) = [(rd, .inr (3, [.ref sa, .int (nI n), .int (nI ((rd_cl tx n ((rd_how tx n 0 nu st).2.1) ((rd_how tx n 0 nu st).2.2.1) 0 0 0 false).2.1)), .int ((rd_cl tx n ((rd_how tx n 0 nu st).2.1) ((rd_how tx n 0 nu st).2.2.1) 0 0 0 false).2.2.1), .int ((rd_how tx n 0 nu st).2.2.2), .int ((rd_cl tx n ((rd_how tx n 0 nu st).2.1) ((rd_how tx n 0 nu st).2.2.1) 0 0 0 false).2.2.2.1), .int ((rd_cl tx n ((rd_how tx n 0 nu st).2.1) ((rd_how tx n 0 nu st).2.2.1) 0 0 0 false).2.2.2.2.1), .int ((rd_cl tx n ((rd_how tx n 0 nu st).2.1) ((rd_how tx n 0 nu st).2.2.1) 0 0 0 false).2.2.2.2.2.1), .int (bo_I ((rd_cl tx n ((rd_how tx n 0 nu st).2.1) ((rd_how tx n 0 nu st).2.2.1) 0 0 0 false).2.2.2.2.2.2))])), (sa, .inl (cI, 120, .inl tx))] := by rw [z9] <;> rfl
      exact W.zret (v := 0) hx hb hr rfl (fun t ht hW => ⟨⟨_, (), rfl, q9, by rw [ht, e9]; exact hP, va_K.moved hW.alike hK, by rw [e9]; exact hD⟩, hS.F ht⟩) hS.2.2 d_Rd_understand_51
    · have hP : va_P (dC, dI) ga_cl [(rd, .inr (3, [.ref sa, .int (nI n), .int (nI ((rd_cl tx n ((rd_how tx n 0 nu st).2.1) ((rd_how tx n 0 nu st).2.2.1) 0 0 0 false).2.1)), .int ((rd_cl tx n ((rd_how tx n 0 nu st).2.1) ((rd_how tx n 0 nu st).2.2.1) 0 0 0 false).2.2.1), .int ((rd_how tx n 0 nu st).2.2.2), .int ((rd_cl tx n ((rd_how tx n 0 nu st).2.1) ((rd_how tx n 0 nu st).2.2.1) 0 0 0 false).2.2.2.1), .int ((rd_cl tx n ((rd_how tx n 0 nu st).2.1) ((rd_how tx n 0 nu st).2.2.1) 0 0 0 false).2.2.2.2.1), .int ((rd_cl tx n ((rd_how tx n 0 nu st).2.1) ((rd_how tx n 0 nu st).2.2.1) 0 0 0 false).2.2.2.2.2.1), .int (bo_I ((rd_cl tx n ((rd_how tx n 0 nu st).2.1) ((rd_how tx n 0 nu st).2.2.1) 0 0 0 false).2.2.2.2.2.2))])), (sa, .inl (cI, 120, .inl tx))] H := hP
      have hD : va_D A [(rd, .inr (3, [.ref sa, .int (nI n), .int (nI ((rd_cl tx n ((rd_how tx n 0 nu st).2.1) ((rd_how tx n 0 nu st).2.2.1) 0 0 0 false).2.1)), .int ((rd_cl tx n ((rd_how tx n 0 nu st).2.1) ((rd_how tx n 0 nu st).2.2.1) 0 0 0 false).2.2.1), .int ((rd_how tx n 0 nu st).2.2.2), .int ((rd_cl tx n ((rd_how tx n 0 nu st).2.1) ((rd_how tx n 0 nu st).2.2.1) 0 0 0 false).2.2.2.1), .int ((rd_cl tx n ((rd_how tx n 0 nu st).2.1) ((rd_how tx n 0 nu st).2.2.1) 0 0 0 false).2.2.2.2.1), .int ((rd_cl tx n ((rd_how tx n 0 nu st).2.1) ((rd_how tx n 0 nu st).2.2.1) 0 0 0 false).2.2.2.2.2.1), .int (bo_I ((rd_cl tx n ((rd_how tx n 0 nu st).2.1) ((rd_how tx n 0 nu st).2.2.1) 0 0 0 false).2.2.2.2.2.2))])), (sa, .inl (cI, 120, .inl tx))] := hD
      have l_33 := rd_cl_le (tx := tx) (nu := (rd_how tx n 0 nu st).2.2.1) (mo := 0) (jo := 0) (vo := 0) (re := false) l_26
      refine lv_if_eq (tgt := 50) hx hb d_Rd_understand_36 (by decide) (fun z9 => absurd z9 (by decide)) (fun _ => ?_)
      refine lv_aload_n hx hb d_Rd_understand_39 rfl (lv_at hl 0 rfl) ?_
      refine wy_calli (wr := []) (w1 := [(rd, .inr (3, [.ref sa, .int (nI n), .int (nI (cond (decide (((rd_cl tx n ((rd_how tx n 0 nu st).2.1) ((rd_how tx n 0 nu st).2.2.1) 0 0 0 false).2.1) = n)) ((rd_cl tx n ((rd_how tx n 0 nu st).2.1) ((rd_how tx n 0 nu st).2.2.1) 0 0 0 false).2.1) (cond (rd_sp tx n ((rd_cl tx n ((rd_how tx n 0 nu st).2.1) ((rd_how tx n 0 nu st).2.2.1) 0 0 0 false).2.1)) (((rd_cl tx n ((rd_how tx n 0 nu st).2.1) ((rd_how tx n 0 nu st).2.2.1) 0 0 0 false).2.1) + 1) ((rd_cl tx n ((rd_how tx n 0 nu st).2.1) ((rd_how tx n 0 nu st).2.2.1) 0 0 0 false).2.1)))), .int ((rd_cl tx n ((rd_how tx n 0 nu st).2.1) ((rd_how tx n 0 nu st).2.2.1) 0 0 0 false).2.2.1), .int ((rd_how tx n 0 nu st).2.2.2), .int ((rd_cl tx n ((rd_how tx n 0 nu st).2.1) ((rd_how tx n 0 nu st).2.2.1) 0 0 0 false).2.2.2.1), .int ((rd_cl tx n ((rd_how tx n 0 nu st).2.1) ((rd_how tx n 0 nu st).2.2.1) 0 0 0 false).2.2.2.2.1), .int ((rd_cl tx n ((rd_how tx n 0 nu st).2.1) ((rd_how tx n 0 nu st).2.2.1) 0 0 0 false).2.2.2.2.2.1), .int (bo_I ((rd_cl tx n ((rd_how tx n 0 nu st).2.1) ((rd_how tx n 0 nu st).2.2.1) 0 0 0 false).2.2.2.2.2.2))])), (sa, .inl (cI, 120, .inl tx))]) (va_runV (As := []) (rest := []) ⟨hx, hb, hml, hown, hts⟩ (c_Rd_takeEnd l dC dI H.size rd sa cI tx n ((rd_cl tx n ((rd_how tx n 0 nu st).2.1) ((rd_how tx n 0 nu st).2.2.1) 0 0 0 false).2.1) ((rd_cl tx n ((rd_how tx n 0 nu st).2.1) ((rd_how tx n 0 nu st).2.2.1) 0 0 0 false).2.2.1) ((rd_how tx n 0 nu st).2.2.2) ((rd_cl tx n ((rd_how tx n 0 nu st).2.1) ((rd_how tx n 0 nu st).2.2.1) 0 0 0 false).2.2.2.1) ((rd_cl tx n ((rd_how tx n 0 nu st).2.1) ((rd_how tx n 0 nu st).2.2.1) 0 0 0 false).2.2.2.2.1) ((rd_cl tx n ((rd_how tx n 0 nu st).2.1) ((rd_how tx n 0 nu st).2.2.1) 0 0 0 false).2.2.2.2.2.1) ((rd_cl tx n ((rd_how tx n 0 nu st).2.1) ((rd_how tx n 0 nu st).2.2.1) 0 0 0 false).2.2.2.2.2.2) (by omega) (by omega)) (cwV 0 hts (ga_V kw_291 kw_293 kw_9 kw_35 (ga_in kw_294)) rfl rfl rfl (by decide +kernel) ⟨Nat.le_of_ble_eq_true rfl, Nat.le_of_ble_eq_true rfl⟩) (wy_mreV 0 (hP.sub (ws' := [(rd, .inr (3, [.ref sa, .int (nI n), .int (nI ((rd_cl tx n ((rd_how tx n 0 nu st).2.1) ((rd_how tx n 0 nu st).2.2.1) 0 0 0 false).2.1)), .int ((rd_cl tx n ((rd_how tx n 0 nu st).2.1) ((rd_how tx n 0 nu st).2.2.1) 0 0 0 false).2.2.1), .int ((rd_how tx n 0 nu st).2.2.2), .int ((rd_cl tx n ((rd_how tx n 0 nu st).2.1) ((rd_how tx n 0 nu st).2.2.1) 0 0 0 false).2.2.2.1), .int ((rd_cl tx n ((rd_how tx n 0 nu st).2.1) ((rd_how tx n 0 nu st).2.2.1) 0 0 0 false).2.2.2.2.1), .int ((rd_cl tx n ((rd_how tx n 0 nu st).2.1) ((rd_how tx n 0 nu st).2.2.1) 0 0 0 false).2.2.2.2.2.1), .int (bo_I ((rd_cl tx n ((rd_how tx n 0 nu st).2.1) ((rd_how tx n 0 nu st).2.2.1) 0 0 0 false).2.2.2.2.2.2))])), (sa, .inl (cI, 120, .inl tx))]) [0, 1] rfl) (hK.sub (tys' := [(cI, .int)]) [0] rfl) hN (hD.sub (ws' := [(rd, .inr (3, [.ref sa, .int (nI n), .int (nI ((rd_cl tx n ((rd_how tx n 0 nu st).2.1) ((rd_how tx n 0 nu st).2.2.1) 0 0 0 false).2.1)), .int ((rd_cl tx n ((rd_how tx n 0 nu st).2.1) ((rd_how tx n 0 nu st).2.2.1) 0 0 0 false).2.2.1), .int ((rd_how tx n 0 nu st).2.2.2), .int ((rd_cl tx n ((rd_how tx n 0 nu st).2.1) ((rd_how tx n 0 nu st).2.2.1) 0 0 0 false).2.2.2.1), .int ((rd_cl tx n ((rd_how tx n 0 nu st).2.1) ((rd_how tx n 0 nu st).2.2.1) 0 0 0 false).2.2.2.2.1), .int ((rd_cl tx n ((rd_how tx n 0 nu st).2.1) ((rd_how tx n 0 nu st).2.2.1) 0 0 0 false).2.2.2.2.2.1), .int (bo_I ((rd_cl tx n ((rd_how tx n 0 nu st).2.1) ((rd_how tx n 0 nu st).2.2.1) 0 0 0 false).2.2.2.2.2.2))])), (sa, .inl (cI, 120, .inl tx))]) [0, 1] (by decide) rfl) (ci := 3) rfl rfl rfl) rfl rfl hl.1 rfl (lv_room (Nat.le_of_ble_eq_true rfl)) d_Rd_understand_40 ⟨Nat.le_of_ble_eq_true rfl, Nat.le_of_ble_eq_true rfl⟩) hP hD hS hA [0, 1] [] rfl rfl (by decide) (by decide) (fun H locs hP hD hS => ?_)
      have hP := hP.sub (ws' := [(rd, .inr (3, [.ref sa, .int (nI n), .int (nI (cond (decide (((rd_cl tx n ((rd_how tx n 0 nu st).2.1) ((rd_how tx n 0 nu st).2.2.1) 0 0 0 false).2.1) = n)) ((rd_cl tx n ((rd_how tx n 0 nu st).2.1) ((rd_how tx n 0 nu st).2.2.1) 0 0 0 false).2.1) (cond (rd_sp tx n ((rd_cl tx n ((rd_how tx n 0 nu st).2.1) ((rd_how tx n 0 nu st).2.2.1) 0 0 0 false).2.1)) (((rd_cl tx n ((rd_how tx n 0 nu st).2.1) ((rd_how tx n 0 nu st).2.2.1) 0 0 0 false).2.1) + 1) ((rd_cl tx n ((rd_how tx n 0 nu st).2.1) ((rd_how tx n 0 nu st).2.2.1) 0 0 0 false).2.1)))), .int ((rd_cl tx n ((rd_how tx n 0 nu st).2.1) ((rd_how tx n 0 nu st).2.2.1) 0 0 0 false).2.2.1), .int ((rd_how tx n 0 nu st).2.2.2), .int ((rd_cl tx n ((rd_how tx n 0 nu st).2.1) ((rd_how tx n 0 nu st).2.2.1) 0 0 0 false).2.2.2.1), .int ((rd_cl tx n ((rd_how tx n 0 nu st).2.1) ((rd_how tx n 0 nu st).2.2.1) 0 0 0 false).2.2.2.2.1), .int ((rd_cl tx n ((rd_how tx n 0 nu st).2.1) ((rd_how tx n 0 nu st).2.2.1) 0 0 0 false).2.2.2.2.2.1), .int (bo_I ((rd_cl tx n ((rd_how tx n 0 nu st).2.1) ((rd_how tx n 0 nu st).2.2.1) 0 0 0 false).2.2.2.2.2.2))])), (sa, .inl (cI, 120, .inl tx))]) [0, 1] rfl
      have hD := hD.sub (ws' := [(rd, .inr (3, [.ref sa, .int (nI n), .int (nI (cond (decide (((rd_cl tx n ((rd_how tx n 0 nu st).2.1) ((rd_how tx n 0 nu st).2.2.1) 0 0 0 false).2.1) = n)) ((rd_cl tx n ((rd_how tx n 0 nu st).2.1) ((rd_how tx n 0 nu st).2.2.1) 0 0 0 false).2.1) (cond (rd_sp tx n ((rd_cl tx n ((rd_how tx n 0 nu st).2.1) ((rd_how tx n 0 nu st).2.2.1) 0 0 0 false).2.1)) (((rd_cl tx n ((rd_how tx n 0 nu st).2.1) ((rd_how tx n 0 nu st).2.2.1) 0 0 0 false).2.1) + 1) ((rd_cl tx n ((rd_how tx n 0 nu st).2.1) ((rd_how tx n 0 nu st).2.2.1) 0 0 0 false).2.1)))), .int ((rd_cl tx n ((rd_how tx n 0 nu st).2.1) ((rd_how tx n 0 nu st).2.2.1) 0 0 0 false).2.2.1), .int ((rd_how tx n 0 nu st).2.2.2), .int ((rd_cl tx n ((rd_how tx n 0 nu st).2.1) ((rd_how tx n 0 nu st).2.2.1) 0 0 0 false).2.2.2.1), .int ((rd_cl tx n ((rd_how tx n 0 nu st).2.1) ((rd_how tx n 0 nu st).2.2.1) 0 0 0 false).2.2.2.2.1), .int ((rd_cl tx n ((rd_how tx n 0 nu st).2.1) ((rd_how tx n 0 nu st).2.2.1) 0 0 0 false).2.2.2.2.2.1), .int (bo_I ((rd_cl tx n ((rd_how tx n 0 nu st).2.1) ((rd_how tx n 0 nu st).2.2.1) 0 0 0 false).2.2.2.2.2.2))])), (sa, .inl (cI, 120, .inl tx))]) [0, 1] (by decide) rfl
      rcases hb_40 : decide (((rd_cl tx n ((rd_how tx n 0 nu st).2.1) ((rd_how tx n 0 nu st).2.2.1) 0 0 0 false).2.1) = n) with _ | _
      · rw [hb_40] at hP hD
        have hP : va_P (dC, dI) ga_cl [(rd, .inr (3, [.ref sa, .int (nI n), .int (nI (cond (rd_sp tx n ((rd_cl tx n ((rd_how tx n 0 nu st).2.1) ((rd_how tx n 0 nu st).2.2.1) 0 0 0 false).2.1)) (((rd_cl tx n ((rd_how tx n 0 nu st).2.1) ((rd_how tx n 0 nu st).2.2.1) 0 0 0 false).2.1) + 1) ((rd_cl tx n ((rd_how tx n 0 nu st).2.1) ((rd_how tx n 0 nu st).2.2.1) 0 0 0 false).2.1))), .int ((rd_cl tx n ((rd_how tx n 0 nu st).2.1) ((rd_how tx n 0 nu st).2.2.1) 0 0 0 false).2.2.1), .int ((rd_how tx n 0 nu st).2.2.2), .int ((rd_cl tx n ((rd_how tx n 0 nu st).2.1) ((rd_how tx n 0 nu st).2.2.1) 0 0 0 false).2.2.2.1), .int ((rd_cl tx n ((rd_how tx n 0 nu st).2.1) ((rd_how tx n 0 nu st).2.2.1) 0 0 0 false).2.2.2.2.1), .int ((rd_cl tx n ((rd_how tx n 0 nu st).2.1) ((rd_how tx n 0 nu st).2.2.1) 0 0 0 false).2.2.2.2.2.1), .int (bo_I ((rd_cl tx n ((rd_how tx n 0 nu st).2.1) ((rd_how tx n 0 nu st).2.2.1) 0 0 0 false).2.2.2.2.2.2))])), (sa, .inl (cI, 120, .inl tx))] H := hP
        have hD : va_D A [(rd, .inr (3, [.ref sa, .int (nI n), .int (nI (cond (rd_sp tx n ((rd_cl tx n ((rd_how tx n 0 nu st).2.1) ((rd_how tx n 0 nu st).2.2.1) 0 0 0 false).2.1)) (((rd_cl tx n ((rd_how tx n 0 nu st).2.1) ((rd_how tx n 0 nu st).2.2.1) 0 0 0 false).2.1) + 1) ((rd_cl tx n ((rd_how tx n 0 nu st).2.1) ((rd_how tx n 0 nu st).2.2.1) 0 0 0 false).2.1))), .int ((rd_cl tx n ((rd_how tx n 0 nu st).2.1) ((rd_how tx n 0 nu st).2.2.1) 0 0 0 false).2.2.1), .int ((rd_how tx n 0 nu st).2.2.2), .int ((rd_cl tx n ((rd_how tx n 0 nu st).2.1) ((rd_how tx n 0 nu st).2.2.1) 0 0 0 false).2.2.2.1), .int ((rd_cl tx n ((rd_how tx n 0 nu st).2.1) ((rd_how tx n 0 nu st).2.2.1) 0 0 0 false).2.2.2.2.1), .int ((rd_cl tx n ((rd_how tx n 0 nu st).2.1) ((rd_how tx n 0 nu st).2.2.1) 0 0 0 false).2.2.2.2.2.1), .int (bo_I ((rd_cl tx n ((rd_how tx n 0 nu st).2.1) ((rd_how tx n 0 nu st).2.2.1) 0 0 0 false).2.2.2.2.2.2))])), (sa, .inl (cI, 120, .inl tx))] := hD
        refine lv_if_eq (tgt := 50) hx hb d_Rd_understand_43 (by decide) (fun _ => ?_) (fun z9 => absurd z9 (by decide))
        refine lv_iconst (v := 0) hx hb d_Rd_understand_50 (by decide) ?_
        rw [hQ]
        have z9 : rd_und tx n nu st = (false, cond (rd_sp tx n ((rd_cl tx n ((rd_how tx n 0 nu st).2.1) ((rd_how tx n 0 nu st).2.2.1) 0 0 0 false).2.1)) (((rd_cl tx n ((rd_how tx n 0 nu st).2.1) ((rd_how tx n 0 nu st).2.2.1) 0 0 0 false).2.1) + 1) ((rd_cl tx n ((rd_how tx n 0 nu st).2.1) ((rd_how tx n 0 nu st).2.2.1) 0 0 0 false).2.1), ((rd_cl tx n ((rd_how tx n 0 nu st).2.1) ((rd_how tx n 0 nu st).2.2.1) 0 0 0 false).2.2.1), ((rd_how tx n 0 nu st).2.2.2), ((rd_cl tx n ((rd_how tx n 0 nu st).2.1) ((rd_how tx n 0 nu st).2.2.1) 0 0 0 false).2.2.2.1), ((rd_cl tx n ((rd_how tx n 0 nu st).2.1) ((rd_how tx n 0 nu st).2.2.1) 0 0 0 false).2.2.2.2.1), ((rd_cl tx n ((rd_how tx n 0 nu st).2.1) ((rd_how tx n 0 nu st).2.2.1) 0 0 0 false).2.2.2.2.2.1), (rd_cl tx n ((rd_how tx n 0 nu st).2.1) ((rd_how tx n 0 nu st).2.2.1) 0 0 0 false).2.2.2.2.2.2) := by simp only [rd_und, hb_26, hb_33, hb_40, cond_true, cond_false]
        have q9 : (0 : Int32) = bo_I ((rd_und tx n nu st).1) := by rw [z9]; rfl
        have e9 : ([(rd, .inr (3, [.ref sa, .int (nI n), .int (nI ((rd_und tx n nu st).2.1)), .int ((rd_und tx n nu st).2.2.1), .int ((rd_und tx n nu st).2.2.2.1), .int ((rd_und tx n nu st).2.2.2.2.1), .int ((rd_und tx n nu st).2.2.2.2.2.1), .int ((rd_und tx n nu st).2.2.2.2.2.2.1), .int (bo_I ((rd_und tx n nu st).2.2.2.2.2.2.2))])), (sa, .inl (cI, 120, .inl tx))] : va_W) = [(rd, .inr (3, [.ref sa, .int (nI n), .int (nI (cond (rd_sp tx n ((rd_cl tx n ((rd_how tx n 0 nu st).2.1) ((rd_how tx n 0 nu st).2.2.1) 0 0 0 false).2.1)) (((rd_cl tx n ((rd_how tx n 0 nu st).2.1) ((rd_how tx n 0 nu st).2.2.1) 0 0 0 false).2.1) + 1) ((rd_cl tx n ((rd_how tx n 0 nu st).2.1) ((rd_how tx n 0 nu st).2.2.1) 0 0 0 false).2.1))), .int ((rd_cl tx n ((rd_how tx n 0 nu st).2.1) ((rd_how tx n 0 nu st).2.2.1) 0 0 0 false).2.2.1), .int ((rd_how tx n 0 nu st).2.2.2), .int ((rd_cl tx n ((rd_how tx n 0 nu st).2.1) ((rd_how tx n 0 nu st).2.2.1) 0 0 0 false).2.2.2.1), .int ((rd_cl tx n ((rd_how tx n 0 nu st).2.1) ((rd_how tx n 0 nu st).2.2.1) 0 0 0 false).2.2.2.2.1), .int ((rd_cl tx n ((rd_how tx n 0 nu st).2.1) ((rd_how tx n 0 nu st).2.2.1) 0 0 0 false).2.2.2.2.2.1), .int (bo_I ((rd_cl tx n ((rd_how tx n 0 nu st).2.1) ((rd_how tx n 0 nu st).2.2.1) 0 0 0 false).2.2.2.2.2.2))])), (sa, .inl (cI, 120, .inl tx))] := by rw [z9] <;> rfl
        exact W.zret (v := 0) hx hb hr rfl (fun t ht hW => ⟨⟨_, (), rfl, q9, by rw [ht, e9]; exact hP, va_K.moved hW.alike hK, by rw [e9]; exact hD⟩, hS.F ht⟩) hS.2.2 d_Rd_understand_51
      · rw [hb_40] at hP hD
        have hP : va_P (dC, dI) ga_cl [(rd, .inr (3, [.ref sa, .int (nI n), .int (nI ((rd_cl tx n ((rd_how tx n 0 nu st).2.1) ((rd_how tx n 0 nu st).2.2.1) 0 0 0 false).2.1)), .int ((rd_cl tx n ((rd_how tx n 0 nu st).2.1) ((rd_how tx n 0 nu st).2.2.1) 0 0 0 false).2.2.1), .int ((rd_how tx n 0 nu st).2.2.2), .int ((rd_cl tx n ((rd_how tx n 0 nu st).2.1) ((rd_how tx n 0 nu st).2.2.1) 0 0 0 false).2.2.2.1), .int ((rd_cl tx n ((rd_how tx n 0 nu st).2.1) ((rd_how tx n 0 nu st).2.2.1) 0 0 0 false).2.2.2.2.1), .int ((rd_cl tx n ((rd_how tx n 0 nu st).2.1) ((rd_how tx n 0 nu st).2.2.1) 0 0 0 false).2.2.2.2.2.1), .int (bo_I ((rd_cl tx n ((rd_how tx n 0 nu st).2.1) ((rd_how tx n 0 nu st).2.2.1) 0 0 0 false).2.2.2.2.2.2))])), (sa, .inl (cI, 120, .inl tx))] H := hP
        have hD : va_D A [(rd, .inr (3, [.ref sa, .int (nI n), .int (nI ((rd_cl tx n ((rd_how tx n 0 nu st).2.1) ((rd_how tx n 0 nu st).2.2.1) 0 0 0 false).2.1)), .int ((rd_cl tx n ((rd_how tx n 0 nu st).2.1) ((rd_how tx n 0 nu st).2.2.1) 0 0 0 false).2.2.1), .int ((rd_how tx n 0 nu st).2.2.2), .int ((rd_cl tx n ((rd_how tx n 0 nu st).2.1) ((rd_how tx n 0 nu st).2.2.1) 0 0 0 false).2.2.2.1), .int ((rd_cl tx n ((rd_how tx n 0 nu st).2.1) ((rd_how tx n 0 nu st).2.2.1) 0 0 0 false).2.2.2.2.1), .int ((rd_cl tx n ((rd_how tx n 0 nu st).2.1) ((rd_how tx n 0 nu st).2.2.1) 0 0 0 false).2.2.2.2.2.1), .int (bo_I ((rd_cl tx n ((rd_how tx n 0 nu st).2.1) ((rd_how tx n 0 nu st).2.2.1) 0 0 0 false).2.2.2.2.2.2))])), (sa, .inl (cI, 120, .inl tx))] := hD
        refine lv_if_eq (tgt := 50) hx hb d_Rd_understand_43 (by decide) (fun z9 => absurd z9 (by decide)) (fun _ => ?_)
        refine lv_iconst (v := 1) hx hb d_Rd_understand_46 (by decide) ?_
        refine lv_goto (tgt := 51) hx hb d_Rd_understand_47 (by decide) ?_
        rw [hQ]
        have z9 : rd_und tx n nu st = (true, (rd_cl tx n ((rd_how tx n 0 nu st).2.1) ((rd_how tx n 0 nu st).2.2.1) 0 0 0 false).2.1, ((rd_cl tx n ((rd_how tx n 0 nu st).2.1) ((rd_how tx n 0 nu st).2.2.1) 0 0 0 false).2.2.1), ((rd_how tx n 0 nu st).2.2.2), ((rd_cl tx n ((rd_how tx n 0 nu st).2.1) ((rd_how tx n 0 nu st).2.2.1) 0 0 0 false).2.2.2.1), ((rd_cl tx n ((rd_how tx n 0 nu st).2.1) ((rd_how tx n 0 nu st).2.2.1) 0 0 0 false).2.2.2.2.1), ((rd_cl tx n ((rd_how tx n 0 nu st).2.1) ((rd_how tx n 0 nu st).2.2.1) 0 0 0 false).2.2.2.2.2.1), (rd_cl tx n ((rd_how tx n 0 nu st).2.1) ((rd_how tx n 0 nu st).2.2.1) 0 0 0 false).2.2.2.2.2.2) := by simp only [rd_und, hb_26, hb_33, hb_40, cond_true, cond_false]
        have q9 : (1 : Int32) = bo_I ((rd_und tx n nu st).1) := by rw [z9]; rfl
        have e9 : ([(rd, .inr (3, [.ref sa, .int (nI n), .int (nI ((rd_und tx n nu st).2.1)), .int ((rd_und tx n nu st).2.2.1), .int ((rd_und tx n nu st).2.2.2.1), .int ((rd_und tx n nu st).2.2.2.2.1), .int ((rd_und tx n nu st).2.2.2.2.2.1), .int ((rd_und tx n nu st).2.2.2.2.2.2.1), .int (bo_I ((rd_und tx n nu st).2.2.2.2.2.2.2))])), (sa, .inl (cI, 120, .inl tx))] : va_W) = [(rd, .inr (3, [.ref sa, .int (nI n), .int (nI ((rd_cl tx n ((rd_how tx n 0 nu st).2.1) ((rd_how tx n 0 nu st).2.2.1) 0 0 0 false).2.1)), .int ((rd_cl tx n ((rd_how tx n 0 nu st).2.1) ((rd_how tx n 0 nu st).2.2.1) 0 0 0 false).2.2.1), .int ((rd_how tx n 0 nu st).2.2.2), .int ((rd_cl tx n ((rd_how tx n 0 nu st).2.1) ((rd_how tx n 0 nu st).2.2.1) 0 0 0 false).2.2.2.1), .int ((rd_cl tx n ((rd_how tx n 0 nu st).2.1) ((rd_how tx n 0 nu st).2.2.1) 0 0 0 false).2.2.2.2.1), .int ((rd_cl tx n ((rd_how tx n 0 nu st).2.1) ((rd_how tx n 0 nu st).2.2.1) 0 0 0 false).2.2.2.2.2.1), .int (bo_I ((rd_cl tx n ((rd_how tx n 0 nu st).2.1) ((rd_how tx n 0 nu st).2.2.1) 0 0 0 false).2.2.2.2.2.2))])), (sa, .inl (cI, 120, .inl tx))] := by rw [z9] <;> rfl
        exact W.zret (v := 1) hx hb hr rfl (fun t ht hW => ⟨⟨_, (), rfl, q9, by rw [ht, e9]; exact hP, va_K.moved hW.alike hK, by rw [e9]; exact hD⟩, hS.F ht⟩) hS.2.2 d_Rd_understand_51
end
