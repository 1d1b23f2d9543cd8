-- ===== PART A: goes FIRST, ahead of the names: the tables' words, and 'selects' of the private methods out of them =====
/-- a private method of a class that the tables say can be made, by its rows of tables_1 -/
def lw_okq (q : MethodName × Nat) : Prop := (q.1.cls ≠ "java/lang/invoke/MethodHandle" ∧ q.1.cls ≠ "java/lang/invoke/VarHandle") ∧ Cond.instantiable q.1.cls q.2 ∈ tables_1 ∧ Cond.privateMethod q.1 ∈ tables_1 ∧ Cond.instanceMethod q.1 ∈ tables_1
theorem lw_p0 : lw_okq (⟨"PatternText$PatternReader", "takeHowOften", "()Z"⟩, 9) := ⟨⟨by decide +kernel, by decide +kernel⟩, List.mem_of_getElem? (i := 26) (by decide +kernel), List.mem_of_getElem? (i := 158) (by decide +kernel), List.mem_of_getElem? (i := 159) (by decide +kernel)⟩
theorem lw_p1 : lw_okq (⟨"PatternText$PatternReader", "takeWord", "(Ljava/lang/String;)Z"⟩, 9) := ⟨⟨by decide +kernel, by decide +kernel⟩, List.mem_of_getElem? (i := 26) (by decide +kernel), List.mem_of_getElem? (i := 163) (by decide +kernel), List.mem_of_getElem? (i := 164) (by decide +kernel)⟩
theorem lw_p2 : lw_okq (⟨"PatternText$PatternReader", "signAt", "(I)I"⟩, 9) := ⟨⟨by decide +kernel, by decide +kernel⟩, List.mem_of_getElem? (i := 26) (by decide +kernel), List.mem_of_getElem? (i := 177) (by decide +kernel), List.mem_of_getElem? (i := 178) (by decide +kernel)⟩
theorem lw_p3 : lw_okq (⟨"PatternText$PatternReader", "takeSpace", "()Z"⟩, 9) := ⟨⟨by decide +kernel, by decide +kernel⟩, List.mem_of_getElem? (i := 26) (by decide +kernel), List.mem_of_getElem? (i := 222) (by decide +kernel), List.mem_of_getElem? (i := 223) (by decide +kernel)⟩
theorem lw_p4 : lw_okq (⟨"PatternText$PatternReader", "signHere", "()I"⟩, 9) := ⟨⟨by decide +kernel, by decide +kernel⟩, List.mem_of_getElem? (i := 26) (by decide +kernel), List.mem_of_getElem? (i := 226) (by decide +kernel), List.mem_of_getElem? (i := 227) (by decide +kernel)⟩
theorem lw_p5 : lw_okq (⟨"PatternText$PatternReader", "takeNumber", "(II)Z"⟩, 9) := ⟨⟨by decide +kernel, by decide +kernel⟩, List.mem_of_getElem? (i := 26) (by decide +kernel), List.mem_of_getElem? (i := 230) (by decide +kernel), List.mem_of_getElem? (i := 231) (by decide +kernel)⟩
theorem lw_p6 : lw_okq (⟨"PatternText$PatternReader", "takeClauses", "()Z"⟩, 9) := ⟨⟨by decide +kernel, by decide +kernel⟩, List.mem_of_getElem? (i := 26) (by decide +kernel), List.mem_of_getElem? (i := 243) (by decide +kernel), List.mem_of_getElem? (i := 244) (by decide +kernel)⟩
theorem lw_p7 : lw_okq (⟨"PatternText$PatternReader", "takeNextWord", "(Ljava/lang/String;)Z"⟩, 9) := ⟨⟨by decide +kernel, by decide +kernel⟩, List.mem_of_getElem? (i := 26) (by decide +kernel), List.mem_of_getElem? (i := 248) (by decide +kernel), List.mem_of_getElem? (i := 249) (by decide +kernel)⟩
theorem lw_p8 : lw_okq (⟨"PatternText$PatternReader", "takeMonths", "()Z"⟩, 9) := ⟨⟨by decide +kernel, by decide +kernel⟩, List.mem_of_getElem? (i := 26) (by decide +kernel), List.mem_of_getElem? (i := 252) (by decide +kernel), List.mem_of_getElem? (i := 253) (by decide +kernel)⟩
theorem lw_p9 : lw_okq (⟨"PatternText$PatternReader", "takeEnd", "()Z"⟩, 9) := ⟨⟨by decide +kernel, by decide +kernel⟩, List.mem_of_getElem? (i := 26) (by decide +kernel), List.mem_of_getElem? (i := 259) (by decide +kernel), List.mem_of_getElem? (i := 260) (by decide +kernel)⟩
theorem lw_p10 : lw_okq (⟨"PatternText", "keepPattern", "()I"⟩, 6) := ⟨⟨by decide +kernel, by decide +kernel⟩, List.mem_of_getElem? (i := 18) (by decide +kernel), List.mem_of_getElem? (i := 263) (by decide +kernel), List.mem_of_getElem? (i := 264) (by decide +kernel)⟩
theorem lw_p11 : lw_okq (⟨"PatternText", "patternOf", "(I)LPatternText$Pattern;"⟩, 6) := ⟨⟨by decide +kernel, by decide +kernel⟩, List.mem_of_getElem? (i := 18) (by decide +kernel), List.mem_of_getElem? (i := 314) (by decide +kernel), List.mem_of_getElem? (i := 315) (by decide +kernel)⟩
theorem lw_p12 : lw_okq (⟨"PatternText$IssueList", "put", "(LPatternText$Pattern;III)V"⟩, 10) := ⟨⟨by decide +kernel, by decide +kernel⟩, List.mem_of_getElem? (i := 78) (by decide +kernel), List.mem_of_getElem? (i := 348) (by decide +kernel), List.mem_of_getElem? (i := 349) (by decide +kernel)⟩
theorem lw_p13 : lw_okq (⟨"PatternText$IssueList", "isOverdue", "(II)Z"⟩, 10) := ⟨⟨by decide +kernel, by decide +kernel⟩, List.mem_of_getElem? (i := 78) (by decide +kernel), List.mem_of_getElem? (i := 424) (by decide +kernel), List.mem_of_getElem? (i := 425) (by decide +kernel)⟩
theorem lw_p14 : lw_okq (⟨"PatternText$IssueList", "isClaimedBefore", "(II)Z"⟩, 10) := ⟨⟨by decide +kernel, by decide +kernel⟩, List.mem_of_getElem? (i := 78) (by decide +kernel), List.mem_of_getElem? (i := 432) (by decide +kernel), List.mem_of_getElem? (i := 433) (by decide +kernel)⟩
theorem lw_p15 : lw_okq (⟨"java/lang/Throwable", "fillInStackTrace", "(I)Ljava/lang/Throwable;"⟩, 6) := ⟨⟨by decide +kernel, by decide +kernel⟩, List.mem_of_getElem? (i := 488) (by decide +kernel), List.mem_of_getElem? (i := 486) (by decide +kernel), List.mem_of_getElem? (i := 487) (by decide +kernel)⟩
def lw_privs_1 : List (MethodName × Nat) := [(⟨"PatternText$PatternReader", "takeHowOften", "()Z"⟩, 9), (⟨"PatternText$PatternReader", "takeWord", "(Ljava/lang/String;)Z"⟩, 9), (⟨"PatternText$PatternReader", "signAt", "(I)I"⟩, 9), (⟨"PatternText$PatternReader", "takeSpace", "()Z"⟩, 9), (⟨"PatternText$PatternReader", "signHere", "()I"⟩, 9), (⟨"PatternText$PatternReader", "takeNumber", "(II)Z"⟩, 9), (⟨"PatternText$PatternReader", "takeClauses", "()Z"⟩, 9), (⟨"PatternText$PatternReader", "takeNextWord", "(Ljava/lang/String;)Z"⟩, 9), (⟨"PatternText$PatternReader", "takeMonths", "()Z"⟩, 9), (⟨"PatternText$PatternReader", "takeEnd", "()Z"⟩, 9), (⟨"PatternText", "keepPattern", "()I"⟩, 6), (⟨"PatternText", "patternOf", "(I)LPatternText$Pattern;"⟩, 6), (⟨"PatternText$IssueList", "put", "(LPatternText$Pattern;III)V"⟩, 10), (⟨"PatternText$IssueList", "isOverdue", "(II)Z"⟩, 10), (⟨"PatternText$IssueList", "isClaimedBefore", "(II)Z"⟩, 10), (⟨"java/lang/Throwable", "fillInStackTrace", "(I)Ljava/lang/Throwable;"⟩, 6)]
theorem lw_r1 : ∀ q ∈ lw_privs_1, lw_okq q := List.forall_mem_cons.mpr ⟨lw_p0, List.forall_mem_cons.mpr ⟨lw_p1, List.forall_mem_cons.mpr ⟨lw_p2, List.forall_mem_cons.mpr ⟨lw_p3, List.forall_mem_cons.mpr ⟨lw_p4, List.forall_mem_cons.mpr ⟨lw_p5, List.forall_mem_cons.mpr ⟨lw_p6, List.forall_mem_cons.mpr ⟨lw_p7, List.forall_mem_cons.mpr ⟨lw_p8, List.forall_mem_cons.mpr ⟨lw_p9, List.forall_mem_cons.mpr ⟨lw_p10, List.forall_mem_cons.mpr ⟨lw_p11, List.forall_mem_cons.mpr ⟨lw_p12, List.forall_mem_cons.mpr ⟨lw_p13, List.forall_mem_cons.mpr ⟨lw_p14, List.forall_mem_cons.mpr ⟨lw_p15, fun _ h => absurd h List.not_mem_nil⟩⟩⟩⟩⟩⟩⟩⟩⟩⟩⟩⟩⟩⟩⟩⟩
theorem lw_p16 : lw_okq (⟨"PatternTextModel", "reads", "(I)Z"⟩, 24) := ⟨⟨by decide +kernel, by decide +kernel⟩, List.mem_of_getElem? (i := 522) (by decide +kernel), List.mem_of_getElem? (i := 614) (by decide +kernel), List.mem_of_getElem? (i := 615) (by decide +kernel)⟩
theorem lw_p17 : lw_okq (⟨"PatternTextModel", "every", "(I)Z"⟩, 24) := ⟨⟨by decide +kernel, by decide +kernel⟩, List.mem_of_getElem? (i := 522) (by decide +kernel), List.mem_of_getElem? (i := 618) (by decide +kernel), List.mem_of_getElem? (i := 619) (by decide +kernel)⟩
theorem lw_p18 : lw_okq (⟨"PatternTextModel", "word", "()J"⟩, 24) := ⟨⟨by decide +kernel, by decide +kernel⟩, List.mem_of_getElem? (i := 522) (by decide +kernel), List.mem_of_getElem? (i := 622) (by decide +kernel), List.mem_of_getElem? (i := 623) (by decide +kernel)⟩
theorem lw_p19 : lw_okq (⟨"PatternTextModel", "look", "(I)I"⟩, 24) := ⟨⟨by decide +kernel, by decide +kernel⟩, List.mem_of_getElem? (i := 522) (by decide +kernel), List.mem_of_getElem? (i := 626) (by decide +kernel), List.mem_of_getElem? (i := 627) (by decide +kernel)⟩
theorem lw_p20 : lw_okq (⟨"PatternTextModel", "bad", "(I)Z"⟩, 24) := ⟨⟨by decide +kernel, by decide +kernel⟩, List.mem_of_getElem? (i := 522) (by decide +kernel), List.mem_of_getElem? (i := 637) (by decide +kernel), List.mem_of_getElem? (i := 638) (by decide +kernel)⟩
theorem lw_p21 : lw_okq (⟨"PatternTextModel", "pass", "()V"⟩, 24) := ⟨⟨by decide +kernel, by decide +kernel⟩, List.mem_of_getElem? (i := 522) (by decide +kernel), List.mem_of_getElem? (i := 641) (by decide +kernel), List.mem_of_getElem? (i := 642) (by decide +kernel)⟩
theorem lw_p22 : lw_okq (⟨"PatternTextModel", "space", "()Z"⟩, 24) := ⟨⟨by decide +kernel, by decide +kernel⟩, List.mem_of_getElem? (i := 522) (by decide +kernel), List.mem_of_getElem? (i := 645) (by decide +kernel), List.mem_of_getElem? (i := 646) (by decide +kernel)⟩
theorem lw_p23 : lw_okq (⟨"PatternTextModel", "number", "(II)I"⟩, 24) := ⟨⟨by decide +kernel, by decide +kernel⟩, List.mem_of_getElem? (i := 522) (by decide +kernel), List.mem_of_getElem? (i := 649) (by decide +kernel), List.mem_of_getElem? (i := 650) (by decide +kernel)⟩
theorem lw_p24 : lw_okq (⟨"PatternTextModel", "skip", "(I)Z"⟩, 24) := ⟨⟨by decide +kernel, by decide +kernel⟩, List.mem_of_getElem? (i := 522) (by decide +kernel), List.mem_of_getElem? (i := 663) (by decide +kernel), List.mem_of_getElem? (i := 664) (by decide +kernel)⟩
theorem lw_p25 : lw_okq (⟨"PatternTextModel", "isHoliday", "(I)Z"⟩, 24) := ⟨⟨by decide +kernel, by decide +kernel⟩, List.mem_of_getElem? (i := 522) (by decide +kernel), List.mem_of_getElem? (i := 675) (by decide +kernel), List.mem_of_getElem? (i := 676) (by decide +kernel)⟩
theorem lw_p26 : lw_okq (⟨"PatternTextModel", "isPattern", "(I)Z"⟩, 24) := ⟨⟨by decide +kernel, by decide +kernel⟩, List.mem_of_getElem? (i := 522) (by decide +kernel), List.mem_of_getElem? (i := 683) (by decide +kernel), List.mem_of_getElem? (i := 684) (by decide +kernel)⟩
theorem lw_p27 : lw_okq (⟨"PatternTextModel", "go", "(IIII)V"⟩, 24) := ⟨⟨by decide +kernel, by decide +kernel⟩, List.mem_of_getElem? (i := 522) (by decide +kernel), List.mem_of_getElem? (i := 687) (by decide +kernel), List.mem_of_getElem? (i := 688) (by decide +kernel)⟩
theorem lw_p28 : lw_okq (⟨"PatternTextModel", "has", "(II)Z"⟩, 24) := ⟨⟨by decide +kernel, by decide +kernel⟩, List.mem_of_getElem? (i := 522) (by decide +kernel), List.mem_of_getElem? (i := 691) (by decide +kernel), List.mem_of_getElem? (i := 692) (by decide +kernel)⟩
theorem lw_p29 : lw_okq (⟨"PatternTextModel", "isIssue", "(I)Z"⟩, 24) := ⟨⟨by decide +kernel, by decide +kernel⟩, List.mem_of_getElem? (i := 522) (by decide +kernel), List.mem_of_getElem? (i := 703) (by decide +kernel), List.mem_of_getElem? (i := 704) (by decide +kernel)⟩
theorem lw_p30 : lw_okq (⟨"PatternTextModel", "told", "(II)I"⟩, 24) := ⟨⟨by decide +kernel, by decide +kernel⟩, List.mem_of_getElem? (i := 522) (by decide +kernel), List.mem_of_getElem? (i := 707) (by decide +kernel), List.mem_of_getElem? (i := 708) (by decide +kernel)⟩
theorem lw_p31 : lw_okq (⟨"PatternTextModel", "lateOn", "(II)I"⟩, 24) := ⟨⟨by decide +kernel, by decide +kernel⟩, List.mem_of_getElem? (i := 522) (by decide +kernel), List.mem_of_getElem? (i := 727) (by decide +kernel), List.mem_of_getElem? (i := 728) (by decide +kernel)⟩
def lw_privs_2 : List (MethodName × Nat) := [(⟨"PatternTextModel", "reads", "(I)Z"⟩, 24), (⟨"PatternTextModel", "every", "(I)Z"⟩, 24), (⟨"PatternTextModel", "word", "()J"⟩, 24), (⟨"PatternTextModel", "look", "(I)I"⟩, 24), (⟨"PatternTextModel", "bad", "(I)Z"⟩, 24), (⟨"PatternTextModel", "pass", "()V"⟩, 24), (⟨"PatternTextModel", "space", "()Z"⟩, 24), (⟨"PatternTextModel", "number", "(II)I"⟩, 24), (⟨"PatternTextModel", "skip", "(I)Z"⟩, 24), (⟨"PatternTextModel", "isHoliday", "(I)Z"⟩, 24), (⟨"PatternTextModel", "isPattern", "(I)Z"⟩, 24), (⟨"PatternTextModel", "go", "(IIII)V"⟩, 24), (⟨"PatternTextModel", "has", "(II)Z"⟩, 24), (⟨"PatternTextModel", "isIssue", "(I)Z"⟩, 24), (⟨"PatternTextModel", "told", "(II)I"⟩, 24), (⟨"PatternTextModel", "lateOn", "(II)I"⟩, 24)]
theorem lw_r2 : ∀ q ∈ lw_privs_2, lw_okq q := List.forall_mem_cons.mpr ⟨lw_p16, List.forall_mem_cons.mpr ⟨lw_p17, List.forall_mem_cons.mpr ⟨lw_p18, List.forall_mem_cons.mpr ⟨lw_p19, List.forall_mem_cons.mpr ⟨lw_p20, List.forall_mem_cons.mpr ⟨lw_p21, List.forall_mem_cons.mpr ⟨lw_p22, List.forall_mem_cons.mpr ⟨lw_p23, List.forall_mem_cons.mpr ⟨lw_p24, List.forall_mem_cons.mpr ⟨lw_p25, List.forall_mem_cons.mpr ⟨lw_p26, List.forall_mem_cons.mpr ⟨lw_p27, List.forall_mem_cons.mpr ⟨lw_p28, List.forall_mem_cons.mpr ⟨lw_p29, List.forall_mem_cons.mpr ⟨lw_p30, List.forall_mem_cons.mpr ⟨lw_p31, fun _ h => absurd h List.not_mem_nil⟩⟩⟩⟩⟩⟩⟩⟩⟩⟩⟩⟩⟩⟩⟩⟩
theorem lw_p32 : lw_okq (⟨"PatternTextModel", "isClaim", "(II)Z"⟩, 24) := ⟨⟨by decide +kernel, by decide +kernel⟩, List.mem_of_getElem? (i := 522) (by decide +kernel), List.mem_of_getElem? (i := 735) (by decide +kernel), List.mem_of_getElem? (i := 736) (by decide +kernel)⟩
def lw_privs_3 : List (MethodName × Nat) := [(⟨"PatternTextModel", "isClaim", "(II)Z"⟩, 24)]
theorem lw_r3 : ∀ q ∈ lw_privs_3, lw_okq q := List.forall_mem_cons.mpr ⟨lw_p32, fun _ h => absurd h List.not_mem_nil⟩
def lw_privs : List (MethodName × Nat) := lw_privs_1 ++ (lw_privs_2 ++ (lw_privs_3))
def lw_tbl : List Cond := k2_sels lw_privs ++ tables_1
theorem lw_privs_ok : ∀ q ∈ lw_privs, lw_okq q := by
  show ∀ q ∈ lw_privs_1 ++ (lw_privs_2 ++ (lw_privs_3)), lw_okq q
  exact List.forall_mem_append.mpr ⟨lw_r1, List.forall_mem_append.mpr ⟨lw_r2, lw_r3⟩⟩
/-! names: classes, fields, methods; every method's words are its own code and the whole table -/
def ga_tbl : List Cond := lw_tbl.filter goodWord
theorem ga_m {w : Cond} (h : w ∈ lw_tbl) (hg : goodWord w = true) : w ∈ ga_tbl := List.mem_filter.mpr ⟨h, hg⟩
theorem ga_l {w : Cond} (h : w ∈ ga_tbl) : w ∈ lw_tbl := (List.mem_filter.mp h).1
theorem ga_good {w : Cond} (h : w ∈ ga_tbl) : (w.onTables && w.keeps) = true ∨ ∃ ty, w = .arrayClass ty := good_of_word (List.mem_filter.mp h).2
def F_Ho : u_T := fun k => match k with
  | 0 => ("PatternText$Holidays", "days", "[I", true)
  | _ => ("PatternText$Holidays", "count", "I", false)
def t_Ho : Nat → FieldType := fun k => match k with
  | 0 => .array .int
  | _ => .int
theorem n_Ho : ∀ a, a < 2 → ∀ b, b < 2 → a ≠ b → (F_Ho a).2.1 ≠ (F_Ho b).2.1 := by decide +kernel
theorem t_Ho_ok : ∀ k, k < 2 → parseFieldDescriptor (F_Ho k).2.2.1 = some (t_Ho k) := by decide +kernel
theorem iw_Ho : ∀ w ∈ u_ws "PatternText$Holidays" F_Ho 2, w ∈ ga_tbl := by decide +kernel
def F_Li : u_T := fun k => match k with
  | 0 => ("PatternText$IssueList", "steps", "[I", true)
  | 1 => ("PatternText$IssueList", "expected", "[I", true)
  | 2 => ("PatternText$IssueList", "lastNumbers", "[I", true)
  | 3 => ("PatternText$IssueList", "numbers", "[I", true)
  | 4 => ("PatternText$IssueList", "told", "[I", true)
  | 5 => ("PatternText$IssueList", "toldSecond", "[I", true)
  | 6 => ("PatternText$IssueList", "volumes", "[I", true)
  | 7 => ("PatternText$IssueList", "patterns", "[I", true)
  | 8 => ("PatternText$IssueList", "comeOn", "[I", true)
  | _ => ("PatternText$IssueList", "size", "I", false)
def t_Li : Nat → FieldType := fun k => match k with
  | 0 => .array .int
  | 1 => .array .int
  | 2 => .array .int
  | 3 => .array .int
  | 4 => .array .int
  | 5 => .array .int
  | 6 => .array .int
  | 7 => .array .int
  | 8 => .array .int
  | _ => .int
theorem n_Li : ∀ a, a < 10 → ∀ b, b < 10 → a ≠ b → (F_Li a).2.1 ≠ (F_Li b).2.1 := by decide +kernel
theorem t_Li_ok : ∀ k, k < 10 → parseFieldDescriptor (F_Li k).2.2.1 = some (t_Li k) := by decide +kernel
theorem iw_Li : ∀ w ∈ u_ws "PatternText$IssueList" F_Li 10, w ∈ ga_tbl := by decide +kernel
def F_Pt : u_T := fun k => match k with
  | 0 => ("PatternText$Pattern", "place", "I", true)
  | 1 => ("PatternText$Pattern", "signs", "[I", true)
  | 2 => ("PatternText$Pattern", "stepDays", "I", true)
  | 3 => ("PatternText$Pattern", "monthsLeftOut", "I", true)
  | 4 => ("PatternText$Pattern", "joined", "I", true)
  | 5 => ("PatternText$Pattern", "volume", "I", true)
  | _ => ("PatternText$Pattern", "restarts", "Z", true)
def t_Pt : Nat → FieldType := fun k => match k with
  | 0 => .int
  | 1 => .array .int
  | 2 => .int
  | 3 => .int
  | 4 => .int
  | 5 => .int
  | _ => .boolean
theorem n_Pt : ∀ a, a < 7 → ∀ b, b < 7 → a ≠ b → (F_Pt a).2.1 ≠ (F_Pt b).2.1 := by decide +kernel
theorem t_Pt_ok : ∀ k, k < 7 → parseFieldDescriptor (F_Pt k).2.2.1 = some (t_Pt k) := by decide +kernel
theorem iw_Pt : ∀ w ∈ u_ws "PatternText$Pattern" F_Pt 7, w ∈ ga_tbl := by decide +kernel
def F_Rd : u_T := fun k => match k with
  | 0 => ("PatternText$PatternReader", "signs", "[I", true)
  | 1 => ("PatternText$PatternReader", "length", "I", false)
  | 2 => ("PatternText$PatternReader", "place", "I", false)
  | 3 => ("PatternText$PatternReader", "number", "I", false)
  | 4 => ("PatternText$PatternReader", "stepDays", "I", false)
  | 5 => ("PatternText$PatternReader", "monthsLeftOut", "I", false)
  | 6 => ("PatternText$PatternReader", "joined", "I", false)
  | 7 => ("PatternText$PatternReader", "volume", "I", false)
  | _ => ("PatternText$PatternReader", "restarts", "Z", false)
def t_Rd : Nat → FieldType := fun k => match k with
  | 0 => .array .int
  | 1 => .int
  | 2 => .int
  | 3 => .int
  | 4 => .int
  | 5 => .int
  | 6 => .int
  | 7 => .int
  | _ => .boolean
theorem n_Rd : ∀ a, a < 9 → ∀ b, b < 9 → a ≠ b → (F_Rd a).2.1 ≠ (F_Rd b).2.1 := by decide +kernel
theorem t_Rd_ok : ∀ k, k < 9 → parseFieldDescriptor (F_Rd k).2.2.1 = some (t_Rd k) := by decide +kernel
theorem iw_Rd : ∀ w ∈ u_ws "PatternText$PatternReader" F_Rd 9, w ∈ ga_tbl := by decide +kernel
def F_Pa : u_T := fun k => match k with
  | 0 => ("PatternText", "reader", "LPatternText$PatternReader;", true)
  | 1 => ("PatternText", "patterns", "[LPatternText$Pattern;", true)
  | 2 => ("PatternText", "holidays", "LPatternText$Holidays;", true)
  | 3 => ("PatternText", "list", "LPatternText$IssueList;", true)
  | 4 => ("PatternText", "patternCount", "I", false)
  | _ => ("PatternText", "printed", "LPatternText$Pattern;", false)
def t_Pa : Nat → FieldType := fun k => match k with
  | 0 => .object "PatternText$PatternReader"
  | 1 => .array (.object "PatternText$Pattern")
  | 2 => .object "PatternText$Holidays"
  | 3 => .object "PatternText$IssueList"
  | 4 => .int
  | _ => .object "PatternText$Pattern"
theorem n_Pa : ∀ a, a < 6 → ∀ b, b < 6 → a ≠ b → (F_Pa a).2.1 ≠ (F_Pa b).2.1 := by decide +kernel
theorem t_Pa_ok : ∀ k, k < 6 → parseFieldDescriptor (F_Pa k).2.2.1 = some (t_Pa k) := by decide +kernel
theorem iw_Pa : ∀ w ∈ u_ws "PatternText" F_Pa 6, w ∈ ga_tbl := by decide +kernel
def F_Mo : u_T := fun k => match k with
  | 0 => ("PatternTextModel", "thrown", "I", false)
  | 1 => ("PatternTextModel", "said", "[B", true)
  | 2 => ("PatternTextModel", "size", "I", false)
  | 3 => ("PatternTextModel", "at", "I", false)
  | 4 => ("PatternTextModel", "wrong", "I", false)
  | 5 => ("PatternTextModel", "steps", "[I", true)
  | 6 => ("PatternTextModel", "months", "[I", true)
  | 7 => ("PatternTextModel", "joined", "[I", true)
  | 8 => ("PatternTextModel", "volumes", "[I", true)
  | 9 => ("PatternTextModel", "restarts", "[Z", true)
  | 10 => ("PatternTextModel", "texts", "[B", true)
  | 11 => ("PatternTextModel", "textSizes", "[I", true)
  | 12 => ("PatternTextModel", "count", "I", false)
  | 13 => ("PatternTextModel", "holidays", "[I", true)
  | 14 => ("PatternTextModel", "holidayCount", "I", false)
  | 15 => ("PatternTextModel", "stepOf", "[I", true)
  | 16 => ("PatternTextModel", "expects", "[I", true)
  | 17 => ("PatternTextModel", "numbers", "[I", true)
  | 18 => ("PatternTextModel", "twice", "[Z", true)
  | 19 => ("PatternTextModel", "patternOf", "[I", true)
  | 20 => ("PatternTextModel", "came", "[I", true)
  | 21 => ("PatternTextModel", "issues", "I", false)
  | 22 => ("PatternTextModel", "printed", "[B", true)
  | _ => ("PatternTextModel", "printedSize", "I", false)
def t_Mo : Nat → FieldType := fun k => match k with
  | 0 => .int
  | 1 => .array .byte
  | 2 => .int
  | 3 => .int
  | 4 => .int
  | 5 => .array .int
  | 6 => .array .int
  | 7 => .array .int
  | 8 => .array .int
  | 9 => .array .boolean
  | 10 => .array .byte
  | 11 => .array .int
  | 12 => .int
  | 13 => .array .int
  | 14 => .int
  | 15 => .array .int
  | 16 => .array .int
  | 17 => .array .int
  | 18 => .array .boolean
  | 19 => .array .int
  | 20 => .array .int
  | 21 => .int
  | 22 => .array .byte
  | _ => .int
theorem n_Mo : ∀ a, a < 24 → ∀ b, b < 24 → a ≠ b → (F_Mo a).2.1 ≠ (F_Mo b).2.1 := by decide +kernel
theorem t_Mo_ok : ∀ k, k < 24 → parseFieldDescriptor (F_Mo k).2.2.1 = some (t_Mo k) := by decide +kernel
theorem iw_Mo : ∀ w ∈ u_ws "PatternTextModel" F_Mo 24, w ∈ ga_tbl := by decide +kernel
abbrev ga_cl : List vw_C := [("PatternText$Holidays", F_Ho, 2), ("PatternText$IssueList", F_Li, 10), ("PatternText$Pattern", F_Pt, 7), ("PatternText$PatternReader", F_Rd, 9), ("PatternText", F_Pa, 6), ("PatternTextModel", F_Mo, 24)]
abbrev b_Pa_init : ByteArray := prog_1_method_1_code
abbrev y_Pa_init : MethodName := ⟨"PatternText", "<init>", "()V"⟩
def w_Pa_init : List Cond := .code y_Pa_init b_Pa_init 1 none :: ga_tbl
abbrev b_Rd_init : ByteArray := prog_5_method_1_code
abbrev y_Rd_init : MethodName := ⟨"PatternText$PatternReader", "<init>", "()V"⟩
def w_Rd_init : List Cond := .code y_Rd_init b_Rd_init 1 none :: ga_tbl
abbrev b_Ho_init : ByteArray := prog_2_method_1_code
abbrev y_Ho_init : MethodName := ⟨"PatternText$Holidays", "<init>", "()V"⟩
def w_Ho_init : List Cond := .code y_Ho_init b_Ho_init 1 none :: ga_tbl
abbrev b_Li_init : ByteArray := prog_3_method_1_code
abbrev y_Li_init : MethodName := ⟨"PatternText$IssueList", "<init>", "()V"⟩
def w_Li_init : List Cond := .code y_Li_init b_Li_init 1 none :: ga_tbl
abbrev b_Pa_sign : ByteArray := prog_1_method_2_code
abbrev y_Pa_sign : MethodName := ⟨"PatternText", "sign", "(I)V"⟩
def w_Pa_sign : List Cond := .code y_Pa_sign b_Pa_sign 2 none :: ga_tbl
abbrev b_Rd_collect : ByteArray := prog_5_method_2_code
abbrev y_Rd_collect : MethodName := ⟨"PatternText$PatternReader", "collect", "(I)V"⟩
def w_Rd_collect : List Cond := .code y_Rd_collect b_Rd_collect 2 none :: ga_tbl
abbrev b_Pa_read : ByteArray := prog_1_method_3_code
abbrev y_Pa_read : MethodName := ⟨"PatternText", "read", "()I"⟩
def w_Pa_read : List Cond := .code y_Pa_read b_Pa_read 4 (some .int) :: ga_tbl
abbrev b_Rd_understand : ByteArray := prog_5_method_5_code
abbrev y_Rd_understand : MethodName := ⟨"PatternText$PatternReader", "understand", "()Z"⟩
def w_Rd_understand : List Cond := .code y_Rd_understand b_Rd_understand 1 (some .boolean) :: ga_tbl
abbrev b_Rd_takeHowOften : ByteArray := prog_5_method_6_code
abbrev y_Rd_takeHowOften : MethodName := ⟨"PatternText$PatternReader", "takeHowOften", "()Z"⟩
def w_Rd_takeHowOften : List Cond := .code y_Rd_takeHowOften b_Rd_takeHowOften 1 (some .boolean) :: ga_tbl
abbrev b_Rd_takeWord : ByteArray := prog_5_method_12_code
abbrev y_Rd_takeWord : MethodName := ⟨"PatternText$PatternReader", "takeWord", "(Ljava/lang/String;)Z"⟩
def w_Rd_takeWord : List Cond := .code y_Rd_takeWord b_Rd_takeWord 4 (some .boolean) :: ga_tbl
abbrev b_Js_length : ByteArray := prog_12_method_54_code
abbrev y_Js_length : MethodName := ⟨"java/lang/String", "length", "()I"⟩
def w_Js_length : List Cond := .code y_Js_length b_Js_length 1 (some .int) :: ga_tbl
abbrev b_Js_coder : ByteArray := prog_12_method_152_code
abbrev y_Js_coder : MethodName := ⟨"java/lang/String", "coder", "()B"⟩
def w_Js_coder : List Cond := .code y_Js_coder b_Js_coder 1 (some .byte) :: ga_tbl
abbrev b_Rd_signAt : ByteArray := prog_5_method_15_code
abbrev y_Rd_signAt : MethodName := ⟨"PatternText$PatternReader", "signAt", "(I)I"⟩
def w_Rd_signAt : List Cond := .code y_Rd_signAt b_Rd_signAt 2 (some .int) :: ga_tbl
abbrev b_Rd_isLetter : ByteArray := prog_5_method_17_code
abbrev y_Rd_isLetter : MethodName := ⟨"PatternText$PatternReader", "isLetter", "(I)Z"⟩
def w_Rd_isLetter : List Cond := .code y_Rd_isLetter b_Rd_isLetter 1 (some .boolean) :: ga_tbl
abbrev b_Js_charAt : ByteArray := prog_12_method_56_code
abbrev y_Js_charAt : MethodName := ⟨"java/lang/String", "charAt", "(I)C"⟩
def w_Js_charAt : List Cond := .code y_Js_charAt b_Js_charAt 2 (some .char) :: ga_tbl
abbrev b_Js_isLatin1 : ByteArray := prog_12_method_154_code
abbrev y_Js_isLatin1 : MethodName := ⟨"java/lang/String", "isLatin1", "()Z"⟩
def w_Js_isLatin1 : List Cond := .code y_Js_isLatin1 b_Js_isLatin1 1 (some .boolean) :: ga_tbl
abbrev b_Jl_charAt : ByteArray := prog_13_method_2_code
abbrev y_Jl_charAt : MethodName := ⟨"java/lang/StringLatin1", "charAt", "([BI)C"⟩
def w_Jl_charAt : List Cond := .code y_Jl_charAt b_Jl_charAt 2 (some .char) :: ga_tbl
abbrev b_Js_checkIndex : ByteArray := prog_12_method_155_code
abbrev y_Js_checkIndex : MethodName := ⟨"java/lang/String", "checkIndex", "(II)V"⟩
def w_Js_checkIndex : List Cond := .code y_Js_checkIndex b_Js_checkIndex 2 none :: ga_tbl
abbrev b_Jp_checkIndex : ByteArray := prog_17_method_11_code
abbrev y_Jp_checkIndex : MethodName := ⟨"jdk/internal/util/Preconditions", "checkIndex", "(IILjava/util/function/BiFunction;)I"⟩
def w_Jp_checkIndex : List Cond := .code y_Jp_checkIndex b_Jp_checkIndex 3 (some .int) :: ga_tbl
abbrev b_Rd_takeSpace : ByteArray := prog_5_method_11_code
abbrev y_Rd_takeSpace : MethodName := ⟨"PatternText$PatternReader", "takeSpace", "()Z"⟩
def w_Rd_takeSpace : List Cond := .code y_Rd_takeSpace b_Rd_takeSpace 1 (some .boolean) :: ga_tbl
abbrev b_Rd_signHere : ByteArray := prog_5_method_14_code
abbrev y_Rd_signHere : MethodName := ⟨"PatternText$PatternReader", "signHere", "()I"⟩
def w_Rd_signHere : List Cond := .code y_Rd_signHere b_Rd_signHere 1 (some .int) :: ga_tbl
abbrev b_Rd_takeNumber : ByteArray := prog_5_method_13_code
abbrev y_Rd_takeNumber : MethodName := ⟨"PatternText$PatternReader", "takeNumber", "(II)Z"⟩
def w_Rd_takeNumber : List Cond := .code y_Rd_takeNumber b_Rd_takeNumber 7 (some .boolean) :: ga_tbl
abbrev b_Rd_isDigit : ByteArray := prog_5_method_16_code
abbrev y_Rd_isDigit : MethodName := ⟨"PatternText$PatternReader", "isDigit", "(I)Z"⟩
def w_Rd_isDigit : List Cond := .code y_Rd_isDigit b_Rd_isDigit 1 (some .boolean) :: ga_tbl
abbrev b_Rd_takeClauses : ByteArray := prog_5_method_7_code
abbrev y_Rd_takeClauses : MethodName := ⟨"PatternText$PatternReader", "takeClauses", "()Z"⟩
def w_Rd_takeClauses : List Cond := .code y_Rd_takeClauses b_Rd_takeClauses 1 (some .boolean) :: ga_tbl
abbrev b_Rd_takeNextWord : ByteArray := prog_5_method_10_code
abbrev y_Rd_takeNextWord : MethodName := ⟨"PatternText$PatternReader", "takeNextWord", "(Ljava/lang/String;)Z"⟩
def w_Rd_takeNextWord : List Cond := .code y_Rd_takeNextWord b_Rd_takeNextWord 3 (some .boolean) :: ga_tbl
abbrev b_Rd_takeMonths : ByteArray := prog_5_method_9_code
abbrev y_Rd_takeMonths : MethodName := ⟨"PatternText$PatternReader", "takeMonths", "()Z"⟩
def w_Rd_takeMonths : List Cond := .code y_Rd_takeMonths b_Rd_takeMonths 3 (some .boolean) :: ga_tbl
abbrev b_Rd_takeEnd : ByteArray := prog_5_method_8_code
abbrev y_Rd_takeEnd : MethodName := ⟨"PatternText$PatternReader", "takeEnd", "()Z"⟩
def w_Rd_takeEnd : List Cond := .code y_Rd_takeEnd b_Rd_takeEnd 1 (some .boolean) :: ga_tbl
abbrev b_Pa_keepPattern : ByteArray := prog_1_method_18_code
abbrev y_Pa_keepPattern : MethodName := ⟨"PatternText", "keepPattern", "()I"⟩
def w_Pa_keepPattern : List Cond := .code y_Pa_keepPattern b_Pa_keepPattern 2 (some .int) :: ga_tbl
abbrev b_Rd_makePattern : ByteArray := prog_5_method_4_code
abbrev y_Rd_makePattern : MethodName := ⟨"PatternText$PatternReader", "makePattern", "(I)LPatternText$Pattern;"⟩
def w_Rd_makePattern : List Cond := .code y_Rd_makePattern b_Rd_makePattern 3 (some (.object "PatternText$Pattern")) :: ga_tbl
abbrev b_Pt_init : ByteArray := prog_4_method_1_code
abbrev y_Pt_init : MethodName := ⟨"PatternText$Pattern", "<init>", "(I[IIIIIZ)V"⟩
def w_Pt_init : List Cond := .code y_Pt_init b_Pt_init 8 none :: ga_tbl
abbrev b_Rd_forget : ByteArray := prog_5_method_3_code
abbrev y_Rd_forget : MethodName := ⟨"PatternText$PatternReader", "forget", "()V"⟩
def w_Rd_forget : List Cond := .code y_Rd_forget b_Rd_forget 1 none :: ga_tbl
abbrev b_Pa_foretell : ByteArray := prog_1_method_4_code
abbrev y_Pa_foretell : MethodName := ⟨"PatternText", "foretell", "(III)I"⟩
def w_Pa_foretell : List Cond := .code y_Pa_foretell b_Pa_foretell 5 (some .int) :: ga_tbl
abbrev b_Pa_patternOf : ByteArray := prog_1_method_17_code
abbrev y_Pa_patternOf : MethodName := ⟨"PatternText", "patternOf", "(I)LPatternText$Pattern;"⟩
def w_Pa_patternOf : List Cond := .code y_Pa_patternOf b_Pa_patternOf 2 (some (.object "PatternText$Pattern")) :: ga_tbl
abbrev b_Pa_isDay : ByteArray := prog_1_method_16_code
abbrev y_Pa_isDay : MethodName := ⟨"PatternText", "isDay", "(I)Z"⟩
def w_Pa_isDay : List Cond := .code y_Pa_isDay b_Pa_isDay 1 (some .boolean) :: ga_tbl
abbrev b_Li_cutTo : ByteArray := prog_3_method_6_code
abbrev y_Li_cutTo : MethodName := ⟨"PatternText$IssueList", "cutTo", "(I)V"⟩
def w_Li_cutTo : List Cond := .code y_Li_cutTo b_Li_cutTo 2 none :: ga_tbl
abbrev b_Li_goOn : ByteArray := prog_3_method_7_code
abbrev y_Li_goOn : MethodName := ⟨"PatternText$IssueList", "goOn", "(LPatternText$Pattern;IILPatternText$Holidays;)V"⟩
def w_Li_goOn : List Cond := .code y_Li_goOn b_Li_goOn 9 none :: ga_tbl
abbrev b_Pt_stepWithIssue : ByteArray := prog_4_method_3_code
abbrev y_Pt_stepWithIssue : MethodName := ⟨"PatternText$Pattern", "stepWithIssue", "(I)I"⟩
def w_Pt_stepWithIssue : List Cond := .code y_Pt_stepWithIssue b_Pt_stepWithIssue 4 (some .int) :: ga_tbl
abbrev b_Pt_hasIssueOn : ByteArray := prog_4_method_2_code
abbrev y_Pt_hasIssueOn : MethodName := ⟨"PatternText$Pattern", "hasIssueOn", "(I)Z"⟩
def w_Pt_hasIssueOn : List Cond := .code y_Pt_hasIssueOn b_Pt_hasIssueOn 3 (some .boolean) :: ga_tbl
abbrev b_Ho_dayFrom : ByteArray := prog_2_method_3_code
abbrev y_Ho_dayFrom : MethodName := ⟨"PatternText$Holidays", "dayFrom", "(I)I"⟩
def w_Ho_dayFrom : List Cond := .code y_Ho_dayFrom b_Ho_dayFrom 4 (some .int) :: ga_tbl
abbrev b_Pt_numbersOfIssue : ByteArray := prog_4_method_5_code
abbrev y_Pt_numbersOfIssue : MethodName := ⟨"PatternText$Pattern", "numbersOfIssue", "(I)I"⟩
def w_Pt_numbersOfIssue : List Cond := .code y_Pt_numbersOfIssue b_Pt_numbersOfIssue 2 (some .int) :: ga_tbl
abbrev b_Li_put : ByteArray := prog_3_method_8_code
abbrev y_Li_put : MethodName := ⟨"PatternText$IssueList", "put", "(LPatternText$Pattern;III)V"⟩
def w_Li_put : List Cond := .code y_Li_put b_Li_put 7 none :: ga_tbl
abbrev b_Pt_asTold : ByteArray := prog_4_method_7_code
abbrev y_Pt_asTold : MethodName := ⟨"PatternText$Pattern", "asTold", "(I)I"⟩
def w_Pt_asTold : List Cond := .code y_Pt_asTold b_Pt_asTold 2 (some .int) :: ga_tbl
abbrev b_Pt_volumeOf : ByteArray := prog_4_method_6_code
abbrev y_Pt_volumeOf : MethodName := ⟨"PatternText$Pattern", "volumeOf", "(I)I"⟩
def w_Pt_volumeOf : List Cond := .code y_Pt_volumeOf b_Pt_volumeOf 2 (some .int) :: ga_tbl
abbrev b_Pa_changed : ByteArray := prog_1_method_5_code
abbrev y_Pa_changed : MethodName := ⟨"PatternText", "changed", "(II)I"⟩
def w_Pa_changed : List Cond := .code y_Pa_changed b_Pa_changed 6 (some .int) :: ga_tbl
abbrev b_Li_countBefore : ByteArray := prog_3_method_5_code
abbrev y_Li_countBefore : MethodName := ⟨"PatternText$IssueList", "countBefore", "(I)I"⟩
def w_Li_countBefore : List Cond := .code y_Li_countBefore b_Li_countBefore 3 (some .int) :: ga_tbl
abbrev b_Li_hasComeFrom : ByteArray := prog_3_method_4_code
abbrev y_Li_hasComeFrom : MethodName := ⟨"PatternText$IssueList", "hasComeFrom", "(I)Z"⟩
def w_Li_hasComeFrom : List Cond := .code y_Li_hasComeFrom b_Li_hasComeFrom 3 (some .boolean) :: ga_tbl
abbrev b_Li_isOut : ByteArray := prog_3_method_3_code
abbrev y_Li_isOut : MethodName := ⟨"PatternText$IssueList", "isOut", "(I)Z"⟩
def w_Li_isOut : List Cond := .code y_Li_isOut b_Li_isOut 2 (some .boolean) :: ga_tbl
abbrev b_Li_has : ByteArray := prog_3_method_2_code
abbrev y_Li_has : MethodName := ⟨"PatternText$IssueList", "has", "(I)Z"⟩
def w_Li_has : List Cond := .code y_Li_has b_Li_has 2 (some .boolean) :: ga_tbl
abbrev b_Pa_issue : ByteArray := prog_1_method_6_code
abbrev y_Pa_issue : MethodName := ⟨"PatternText", "issue", "(II)I"⟩
def w_Pa_issue : List Cond := .code y_Pa_issue b_Pa_issue 3 (some .int) :: ga_tbl
abbrev b_Pa_date : ByteArray := prog_1_method_7_code
abbrev y_Pa_date : MethodName := ⟨"PatternText", "date", "(I)J"⟩
def w_Pa_date : List Cond := .code y_Pa_date b_Pa_date 2 (some .long) :: ga_tbl
abbrev b_Pa_irregular : ByteArray := prog_1_method_8_code
abbrev y_Pa_irregular : MethodName := ⟨"PatternText", "irregular", "(II)I"⟩
def w_Pa_irregular : List Cond := .code y_Pa_irregular b_Pa_irregular 3 (some .int) :: ga_tbl
abbrev b_Pa_holiday : ByteArray := prog_1_method_9_code
abbrev y_Pa_holiday : MethodName := ⟨"PatternText", "holiday", "(I)I"⟩
def w_Pa_holiday : List Cond := .code y_Pa_holiday b_Pa_holiday 2 (some .int) :: ga_tbl
abbrev b_Ho_add : ByteArray := prog_2_method_2_code
abbrev y_Ho_add : MethodName := ⟨"PatternText$Holidays", "add", "(I)Z"⟩
def w_Ho_add : List Cond := .code y_Ho_add b_Ho_add 3 (some .boolean) :: ga_tbl
abbrev b_Pa_came : ByteArray := prog_1_method_10_code
abbrev y_Pa_came : MethodName := ⟨"PatternText", "came", "(II)I"⟩
def w_Pa_came : List Cond := .code y_Pa_came b_Pa_came 3 (some .int) :: ga_tbl
abbrev b_Pa_late : ByteArray := prog_1_method_11_code
abbrev y_Pa_late : MethodName := ⟨"PatternText", "late", "(II)I"⟩
def w_Pa_late : List Cond := .code y_Pa_late b_Pa_late 4 (some .int) :: ga_tbl
abbrev b_Pa_claim : ByteArray := prog_1_method_12_code
abbrev y_Pa_claim : MethodName := ⟨"PatternText", "claim", "(II)I"⟩
def w_Pa_claim : List Cond := .code y_Pa_claim b_Pa_claim 5 (some .int) :: ga_tbl
abbrev b_Li_countOverdue : ByteArray := prog_3_method_10_code
abbrev y_Li_countOverdue : MethodName := ⟨"PatternText$IssueList", "countOverdue", "(I)I"⟩
def w_Li_countOverdue : List Cond := .code y_Li_countOverdue b_Li_countOverdue 4 (some .int) :: ga_tbl
abbrev b_Li_isOverdue : ByteArray := prog_3_method_9_code
abbrev y_Li_isOverdue : MethodName := ⟨"PatternText$IssueList", "isOverdue", "(II)Z"⟩
def w_Li_isOverdue : List Cond := .code y_Li_isOverdue b_Li_isOverdue 3 (some .boolean) :: ga_tbl
abbrev b_Li_nextOverdue : ByteArray := prog_3_method_11_code
abbrev y_Li_nextOverdue : MethodName := ⟨"PatternText$IssueList", "nextOverdue", "(II)I"⟩
def w_Li_nextOverdue : List Cond := .code y_Li_nextOverdue b_Li_nextOverdue 6 (some .int) :: ga_tbl
abbrev b_Li_isClaimedBefore : ByteArray := prog_3_method_12_code
abbrev y_Li_isClaimedBefore : MethodName := ⟨"PatternText$IssueList", "isClaimedBefore", "(II)Z"⟩
def w_Li_isClaimedBefore : List Cond := .code y_Li_isClaimedBefore b_Li_isClaimedBefore 3 (some .boolean) :: ga_tbl
abbrev b_Pa_print : ByteArray := prog_1_method_13_code
abbrev y_Pa_print : MethodName := ⟨"PatternText", "print", "(I)I"⟩
def w_Pa_print : List Cond := .code y_Pa_print b_Pa_print 3 (some .int) :: ga_tbl
abbrev b_Pa_at : ByteArray := prog_1_method_14_code
abbrev y_Pa_at : MethodName := ⟨"PatternText", "at", "(I)I"⟩
def w_Pa_at : List Cond := .code y_Pa_at b_Pa_at 2 (some .int) :: ga_tbl
abbrev b_La_yearly : ByteArray := method_3_code
abbrev y_La_yearly : MethodName := ⟨"PatternTextLaw", "yearly", "(LPatternText;III[J)I"⟩
abbrev b_Pa_yearly : ByteArray := prog_1_method_15_code
abbrev y_Pa_yearly : MethodName := ⟨"PatternText", "yearly", "(III)I"⟩
def w_Pa_yearly : List Cond := .code y_Pa_yearly b_Pa_yearly 5 (some .int) :: ga_tbl
abbrev b_Pt_issuesInYearFrom : ByteArray := prog_4_method_4_code
abbrev y_Pt_issuesInYearFrom : MethodName := ⟨"PatternText$Pattern", "issuesInYearFrom", "(I)I"⟩
def w_Pt_issuesInYearFrom : List Cond := .code y_Pt_issuesInYearFrom b_Pt_issuesInYearFrom 6 (some .int) :: ga_tbl
abbrev b_Mo_init : ByteArray := prog_7_method_1_code
abbrev y_Mo_init : MethodName := ⟨"PatternTextModel", "<init>", "()V"⟩
def w_Mo_init : List Cond := .code y_Mo_init b_Mo_init 1 none :: ga_tbl
abbrev b_Mo_thrown : ByteArray := prog_7_method_2_code
abbrev y_Mo_thrown : MethodName := ⟨"PatternTextModel", "thrown", "()I"⟩
def w_Mo_thrown : List Cond := .code y_Mo_thrown b_Mo_thrown 1 (some .int) :: ga_tbl
abbrev b_Mo_sign : ByteArray := prog_7_method_3_code
abbrev y_Mo_sign : MethodName := ⟨"PatternTextModel", "sign", "(I)V"⟩
def w_Mo_sign : List Cond := .code y_Mo_sign b_Mo_sign 2 none :: ga_tbl
abbrev b_Mo_read : ByteArray := prog_7_method_15_code
abbrev y_Mo_read : MethodName := ⟨"PatternTextModel", "read", "()I"⟩
def w_Mo_read : List Cond := .code y_Mo_read b_Mo_read 4 (some .int) :: ga_tbl
abbrev b_Mo_reads : ByteArray := prog_7_method_14_code
abbrev y_Mo_reads : MethodName := ⟨"PatternTextModel", "reads", "(I)Z"⟩
def w_Mo_reads : List Cond := .code y_Mo_reads b_Mo_reads 7 (some .boolean) :: ga_tbl
abbrev b_Mo_every : ByteArray := prog_7_method_12_code
abbrev y_Mo_every : MethodName := ⟨"PatternTextModel", "every", "(I)Z"⟩
def w_Mo_every : List Cond := .code y_Mo_every b_Mo_every 6 (some .boolean) :: ga_tbl
abbrev b_Mo_word : ByteArray := prog_7_method_9_code
abbrev y_Mo_word : MethodName := ⟨"PatternTextModel", "word", "()J"⟩
def w_Mo_word : List Cond := .code y_Mo_word b_Mo_word 4 (some .long) :: ga_tbl
abbrev b_Mo_look : ByteArray := prog_7_method_4_code
abbrev y_Mo_look : MethodName := ⟨"PatternTextModel", "look", "(I)I"⟩
def w_Mo_look : List Cond := .code y_Mo_look b_Mo_look 2 (some .int) :: ga_tbl
abbrev b_Mo_isLetter : ByteArray := prog_7_method_7_code
abbrev y_Mo_isLetter : MethodName := ⟨"PatternTextModel", "isLetter", "(I)Z"⟩
def w_Mo_isLetter : List Cond := .code y_Mo_isLetter b_Mo_isLetter 1 (some .boolean) :: ga_tbl
abbrev b_Mo_bad : ByteArray := prog_7_method_5_code
abbrev y_Mo_bad : MethodName := ⟨"PatternTextModel", "bad", "(I)Z"⟩
def w_Mo_bad : List Cond := .code y_Mo_bad b_Mo_bad 2 (some .boolean) :: ga_tbl
abbrev b_Mo_pass : ByteArray := prog_7_method_10_code
abbrev y_Mo_pass : MethodName := ⟨"PatternTextModel", "pass", "()V"⟩
def w_Mo_pass : List Cond := .code y_Mo_pass b_Mo_pass 1 none :: ga_tbl
abbrev b_Mo_space : ByteArray := prog_7_method_8_code
abbrev y_Mo_space : MethodName := ⟨"PatternTextModel", "space", "()Z"⟩
def w_Mo_space : List Cond := .code y_Mo_space b_Mo_space 1 (some .boolean) :: ga_tbl
abbrev b_Mo_number : ByteArray := prog_7_method_11_code
abbrev y_Mo_number : MethodName := ⟨"PatternTextModel", "number", "(II)I"⟩
def w_Mo_number : List Cond := .code y_Mo_number b_Mo_number 6 (some .int) :: ga_tbl
abbrev b_Mo_isDigit : ByteArray := prog_7_method_6_code
abbrev y_Mo_isDigit : MethodName := ⟨"PatternTextModel", "isDigit", "(I)Z"⟩
def w_Mo_isDigit : List Cond := .code y_Mo_isDigit b_Mo_isDigit 1 (some .boolean) :: ga_tbl
abbrev b_Mo_skip : ByteArray := prog_7_method_13_code
abbrev y_Mo_skip : MethodName := ⟨"PatternTextModel", "skip", "(I)Z"⟩
def w_Mo_skip : List Cond := .code y_Mo_skip b_Mo_skip 6 (some .boolean) :: ga_tbl
abbrev b_Mo_holiday : ByteArray := prog_7_method_19_code
abbrev y_Mo_holiday : MethodName := ⟨"PatternTextModel", "holiday", "(I)I"⟩
def w_Mo_holiday : List Cond := .code y_Mo_holiday b_Mo_holiday 2 (some .int) :: ga_tbl
abbrev b_Mo_isDay : ByteArray := prog_7_method_17_code
abbrev y_Mo_isDay : MethodName := ⟨"PatternTextModel", "isDay", "(I)Z"⟩
def w_Mo_isDay : List Cond := .code y_Mo_isDay b_Mo_isDay 1 (some .boolean) :: ga_tbl
abbrev b_Mo_isHoliday : ByteArray := prog_7_method_18_code
abbrev y_Mo_isHoliday : MethodName := ⟨"PatternTextModel", "isHoliday", "(I)Z"⟩
def w_Mo_isHoliday : List Cond := .code y_Mo_isHoliday b_Mo_isHoliday 4 (some .boolean) :: ga_tbl
abbrev b_Mo_foretell : ByteArray := prog_7_method_22_code
abbrev y_Mo_foretell : MethodName := ⟨"PatternTextModel", "foretell", "(III)I"⟩
def w_Mo_foretell : List Cond := .code y_Mo_foretell b_Mo_foretell 4 (some .int) :: ga_tbl
abbrev b_Mo_isPattern : ByteArray := prog_7_method_16_code
abbrev y_Mo_isPattern : MethodName := ⟨"PatternTextModel", "isPattern", "(I)Z"⟩
def w_Mo_isPattern : List Cond := .code y_Mo_isPattern b_Mo_isPattern 2 (some .boolean) :: ga_tbl
abbrev b_Mo_go : ByteArray := prog_7_method_21_code
abbrev y_Mo_go : MethodName := ⟨"PatternTextModel", "go", "(IIII)V"⟩
def w_Mo_go : List Cond := .code y_Mo_go b_Mo_go 11 none :: ga_tbl
abbrev b_Mo_has : ByteArray := prog_7_method_20_code
abbrev y_Mo_has : MethodName := ⟨"PatternTextModel", "has", "(II)Z"⟩
def w_Mo_has : List Cond := .code y_Mo_has b_Mo_has 3 (some .boolean) :: ga_tbl
abbrev b_Mo_changed : ByteArray := prog_7_method_23_code
abbrev y_Mo_changed : MethodName := ⟨"PatternTextModel", "changed", "(II)I"⟩
def w_Mo_changed : List Cond := .code y_Mo_changed b_Mo_changed 5 (some .int) :: ga_tbl
abbrev b_Mo_issue : ByteArray := prog_7_method_26_code
abbrev y_Mo_issue : MethodName := ⟨"PatternTextModel", "issue", "(II)I"⟩
def w_Mo_issue : List Cond := .code y_Mo_issue b_Mo_issue 4 (some .int) :: ga_tbl
abbrev b_Mo_isIssue : ByteArray := prog_7_method_24_code
abbrev y_Mo_isIssue : MethodName := ⟨"PatternTextModel", "isIssue", "(I)Z"⟩
def w_Mo_isIssue : List Cond := .code y_Mo_isIssue b_Mo_isIssue 2 (some .boolean) :: ga_tbl
abbrev b_Mo_told : ByteArray := prog_7_method_25_code
abbrev y_Mo_told : MethodName := ⟨"PatternTextModel", "told", "(II)I"⟩
def w_Mo_told : List Cond := .code y_Mo_told b_Mo_told 3 (some .int) :: ga_tbl
abbrev b_Mo_date : ByteArray := prog_7_method_27_code
abbrev y_Mo_date : MethodName := ⟨"PatternTextModel", "date", "(I)J"⟩
def w_Mo_date : List Cond := .code y_Mo_date b_Mo_date 2 (some .long) :: ga_tbl
abbrev b_Mo_irregular : ByteArray := prog_7_method_28_code
abbrev y_Mo_irregular : MethodName := ⟨"PatternTextModel", "irregular", "(II)I"⟩
def w_Mo_irregular : List Cond := .code y_Mo_irregular b_Mo_irregular 3 (some .int) :: ga_tbl
abbrev b_Mo_came : ByteArray := prog_7_method_29_code
abbrev y_Mo_came : MethodName := ⟨"PatternTextModel", "came", "(II)I"⟩
def w_Mo_came : List Cond := .code y_Mo_came b_Mo_came 3 (some .int) :: ga_tbl
abbrev b_Mo_late : ByteArray := prog_7_method_31_code
abbrev y_Mo_late : MethodName := ⟨"PatternTextModel", "late", "(II)I"⟩
def w_Mo_late : List Cond := .code y_Mo_late b_Mo_late 3 (some .int) :: ga_tbl
abbrev b_Mo_lateOn : ByteArray := prog_7_method_30_code
abbrev y_Mo_lateOn : MethodName := ⟨"PatternTextModel", "lateOn", "(II)I"⟩
def w_Mo_lateOn : List Cond := .code y_Mo_lateOn b_Mo_lateOn 4 (some .int) :: ga_tbl
abbrev b_Mo_claim : ByteArray := prog_7_method_33_code
abbrev y_Mo_claim : MethodName := ⟨"PatternTextModel", "claim", "(II)I"⟩
def w_Mo_claim : List Cond := .code y_Mo_claim b_Mo_claim 6 (some .int) :: ga_tbl
abbrev b_Mo_isClaim : ByteArray := prog_7_method_32_code
abbrev y_Mo_isClaim : MethodName := ⟨"PatternTextModel", "isClaim", "(II)Z"⟩
def w_Mo_isClaim : List Cond := .code y_Mo_isClaim b_Mo_isClaim 3 (some .boolean) :: ga_tbl
abbrev b_Mo_print : ByteArray := prog_7_method_34_code
abbrev y_Mo_print : MethodName := ⟨"PatternTextModel", "print", "(I)I"⟩
def w_Mo_print : List Cond := .code y_Mo_print b_Mo_print 3 (some .int) :: ga_tbl
abbrev b_Mo_at : ByteArray := prog_7_method_35_code
abbrev y_Mo_at : MethodName := ⟨"PatternTextModel", "at", "(I)I"⟩
def w_Mo_at : List Cond := .code y_Mo_at b_Mo_at 2 (some .int) :: ga_tbl
abbrev b_Mo_yearly : ByteArray := prog_7_method_36_code
abbrev y_Mo_yearly : MethodName := ⟨"PatternTextModel", "yearly", "(III)I"⟩
def w_Mo_yearly : List Cond := .code y_Mo_yearly b_Mo_yearly 6 (some .int) :: ga_tbl
def ga_nest : List Cond := [Cond.methodLinkNest "PatternText" 9 ⟨"PatternText$PatternReader", "<init>", "()V"⟩ "PatternText", Cond.fieldLinkNest "PatternText" 52 "PatternText$PatternReader" "place" "I" "PatternText", Cond.methodLinkNest "PatternText" 24 ⟨"PatternText$Holidays", "<init>", "()V"⟩ "PatternText", Cond.fieldLinkNest "PatternText" 116 "PatternText$Holidays" "count" "I" "PatternText", Cond.methodLinkNest "PatternText" 31 ⟨"PatternText$IssueList", "<init>", "()V"⟩ "PatternText", Cond.fieldLinkNest "PatternText" 108 "PatternText$IssueList" "expected" "[I" "PatternText", Cond.fieldLinkNest "PatternText" 94 "PatternText$IssueList" "numbers" "[I" "PatternText", Cond.fieldLinkNest "PatternText" 90 "PatternText$IssueList" "told" "[I" "PatternText", Cond.fieldLinkNest "PatternText" 100 "PatternText$IssueList" "toldSecond" "[I" "PatternText", Cond.fieldLinkNest "PatternText" 97 "PatternText$IssueList" "volumes" "[I" "PatternText", Cond.fieldLinkNest "PatternText" 103 "PatternText$IssueList" "patterns" "[I" "PatternText", Cond.fieldLinkNest "PatternText" 119 "PatternText$IssueList" "comeOn" "[I" "PatternText", Cond.fieldLinkNest "PatternText" 77 "PatternText$IssueList" "size" "I" "PatternText", Cond.fieldLinkNest "PatternText$IssueList" 84 "PatternText$Pattern" "place" "I" "PatternText", Cond.fieldLinkNest "PatternText" 134 "PatternText$Pattern" "signs" "[I" "PatternText", Cond.fieldLinkNest "PatternText$IssueList" 75 "PatternText$Pattern" "stepDays" "I" "PatternText"]
def ga_N (U : State) : Prop := (∀ w ∈ ga_nest, va_Nw w U) ∧ va_AO "PatternText$Pattern" U
theorem ga_N.same {u U : State} (h : u.vm = U.vm) (hN : ga_N u) : ga_N U := ⟨fun w hw => va_Nw.same (by simp only [ga_nest, List.mem_cons, List.not_mem_nil, or_false] at hw; rcases hw with rfl | rfl | rfl | rfl | rfl | rfl | rfl | rfl | rfl | rfl | rfl | rfl | rfl | rfl | rfl | rfl <;> rfl) h (hN.1 w hw), va_AO.moved (by rw [h]; exact Vm.Alike.refl _) hN.2⟩
theorem ga_N.warm {s U : State} (hW : s.WarmedH U.vm) (hN : ga_N s) : ga_N U := ⟨fun w hw => by
  have h0 := hN.1 w hw
  simp only [ga_nest, List.mem_cons, List.not_mem_nil, or_false] at hw
  rcases hw with rfl | rfl | rfl | rfl | rfl | rfl | rfl | rfl | rfl | rfl | rfl | rfl | rfl | rfl | rfl | rfl <;> first | exact va_Nw.warmF hW h0 | exact va_Nw.warmM hW h0, va_AO.moved hW.alike hN.2⟩
theorem nw_60 {U : State} {A : Array Value} (h : ga_N U) : (Cond.methodLinkNest "PatternText" 9 ⟨"PatternText$PatternReader", "<init>", "()V"⟩ "PatternText" : Cond).before A U = true := va_Nw.use rfl (h.1 _ (List.mem_of_getElem? (i := 0) rfl))
theorem nv_60 {U : State} (h : ga_N U) : va_Nw (Cond.methodLinkNest "PatternText" 9 ⟨"PatternText$PatternReader", "<init>", "()V"⟩ "PatternText" : Cond) U := h.1 _ (List.mem_of_getElem? (i := 0) rfl)
theorem nw_67 {U : State} {A : Array Value} (h : ga_N U) : (Cond.fieldLinkNest "PatternText" 52 "PatternText$PatternReader" "place" "I" "PatternText" : Cond).before A U = true := va_Nw.use rfl (h.1 _ (List.mem_of_getElem? (i := 1) rfl))
theorem nv_67 {U : State} (h : ga_N U) : va_Nw (Cond.fieldLinkNest "PatternText" 52 "PatternText$PatternReader" "place" "I" "PatternText" : Cond) U := h.1 _ (List.mem_of_getElem? (i := 1) rfl)
theorem nw_98 {U : State} {A : Array Value} (h : ga_N U) : (Cond.methodLinkNest "PatternText" 24 ⟨"PatternText$Holidays", "<init>", "()V"⟩ "PatternText" : Cond).before A U = true := va_Nw.use rfl (h.1 _ (List.mem_of_getElem? (i := 2) rfl))
theorem nv_98 {U : State} (h : ga_N U) : va_Nw (Cond.methodLinkNest "PatternText" 24 ⟨"PatternText$Holidays", "<init>", "()V"⟩ "PatternText" : Cond) U := h.1 _ (List.mem_of_getElem? (i := 2) rfl)
theorem nw_104 {U : State} {A : Array Value} (h : ga_N U) : (Cond.fieldLinkNest "PatternText" 116 "PatternText$Holidays" "count" "I" "PatternText" : Cond).before A U = true := va_Nw.use rfl (h.1 _ (List.mem_of_getElem? (i := 3) rfl))
theorem nv_104 {U : State} (h : ga_N U) : va_Nw (Cond.fieldLinkNest "PatternText" 116 "PatternText$Holidays" "count" "I" "PatternText" : Cond) U := h.1 _ (List.mem_of_getElem? (i := 3) rfl)
theorem nw_112 {U : State} {A : Array Value} (h : ga_N U) : (Cond.methodLinkNest "PatternText" 31 ⟨"PatternText$IssueList", "<init>", "()V"⟩ "PatternText" : Cond).before A U = true := va_Nw.use rfl (h.1 _ (List.mem_of_getElem? (i := 4) rfl))
theorem nv_112 {U : State} (h : ga_N U) : va_Nw (Cond.methodLinkNest "PatternText" 31 ⟨"PatternText$IssueList", "<init>", "()V"⟩ "PatternText" : Cond) U := h.1 _ (List.mem_of_getElem? (i := 4) rfl)
theorem nw_118 {U : State} {A : Array Value} (h : ga_N U) : (Cond.fieldLinkNest "PatternText" 108 "PatternText$IssueList" "expected" "[I" "PatternText" : Cond).before A U = true := va_Nw.use rfl (h.1 _ (List.mem_of_getElem? (i := 5) rfl))
theorem nv_118 {U : State} (h : ga_N U) : va_Nw (Cond.fieldLinkNest "PatternText" 108 "PatternText$IssueList" "expected" "[I" "PatternText" : Cond) U := h.1 _ (List.mem_of_getElem? (i := 5) rfl)
theorem nw_121 {U : State} {A : Array Value} (h : ga_N U) : (Cond.fieldLinkNest "PatternText" 94 "PatternText$IssueList" "numbers" "[I" "PatternText" : Cond).before A U = true := va_Nw.use rfl (h.1 _ (List.mem_of_getElem? (i := 6) rfl))
theorem nv_121 {U : State} (h : ga_N U) : va_Nw (Cond.fieldLinkNest "PatternText" 94 "PatternText$IssueList" "numbers" "[I" "PatternText" : Cond) U := h.1 _ (List.mem_of_getElem? (i := 6) rfl)
theorem nw_123 {U : State} {A : Array Value} (h : ga_N U) : (Cond.fieldLinkNest "PatternText" 90 "PatternText$IssueList" "told" "[I" "PatternText" : Cond).before A U = true := va_Nw.use rfl (h.1 _ (List.mem_of_getElem? (i := 7) rfl))
theorem nv_123 {U : State} (h : ga_N U) : va_Nw (Cond.fieldLinkNest "PatternText" 90 "PatternText$IssueList" "told" "[I" "PatternText" : Cond) U := h.1 _ (List.mem_of_getElem? (i := 7) rfl)
theorem nw_125 {U : State} {A : Array Value} (h : ga_N U) : (Cond.fieldLinkNest "PatternText" 100 "PatternText$IssueList" "toldSecond" "[I" "PatternText" : Cond).before A U = true := va_Nw.use rfl (h.1 _ (List.mem_of_getElem? (i := 8) rfl))
theorem nv_125 {U : State} (h : ga_N U) : va_Nw (Cond.fieldLinkNest "PatternText" 100 "PatternText$IssueList" "toldSecond" "[I" "PatternText" : Cond) U := h.1 _ (List.mem_of_getElem? (i := 8) rfl)
theorem nw_127 {U : State} {A : Array Value} (h : ga_N U) : (Cond.fieldLinkNest "PatternText" 97 "PatternText$IssueList" "volumes" "[I" "PatternText" : Cond).before A U = true := va_Nw.use rfl (h.1 _ (List.mem_of_getElem? (i := 9) rfl))
theorem nv_127 {U : State} (h : ga_N U) : va_Nw (Cond.fieldLinkNest "PatternText" 97 "PatternText$IssueList" "volumes" "[I" "PatternText" : Cond) U := h.1 _ (List.mem_of_getElem? (i := 9) rfl)
theorem nw_129 {U : State} {A : Array Value} (h : ga_N U) : (Cond.fieldLinkNest "PatternText" 103 "PatternText$IssueList" "patterns" "[I" "PatternText" : Cond).before A U = true := va_Nw.use rfl (h.1 _ (List.mem_of_getElem? (i := 10) rfl))
theorem nv_129 {U : State} (h : ga_N U) : va_Nw (Cond.fieldLinkNest "PatternText" 103 "PatternText$IssueList" "patterns" "[I" "PatternText" : Cond) U := h.1 _ (List.mem_of_getElem? (i := 10) rfl)
theorem nw_131 {U : State} {A : Array Value} (h : ga_N U) : (Cond.fieldLinkNest "PatternText" 119 "PatternText$IssueList" "comeOn" "[I" "PatternText" : Cond).before A U = true := va_Nw.use rfl (h.1 _ (List.mem_of_getElem? (i := 11) rfl))
theorem nv_131 {U : State} (h : ga_N U) : va_Nw (Cond.fieldLinkNest "PatternText" 119 "PatternText$IssueList" "comeOn" "[I" "PatternText" : Cond) U := h.1 _ (List.mem_of_getElem? (i := 11) rfl)
theorem nw_133 {U : State} {A : Array Value} (h : ga_N U) : (Cond.fieldLinkNest "PatternText" 77 "PatternText$IssueList" "size" "I" "PatternText" : Cond).before A U = true := va_Nw.use rfl (h.1 _ (List.mem_of_getElem? (i := 12) rfl))
theorem nv_133 {U : State} (h : ga_N U) : va_Nw (Cond.fieldLinkNest "PatternText" 77 "PatternText$IssueList" "size" "I" "PatternText" : Cond) U := h.1 _ (List.mem_of_getElem? (i := 12) rfl)
theorem nw_313 {U : State} {A : Array Value} (h : ga_N U) : (Cond.fieldLinkNest "PatternText$IssueList" 84 "PatternText$Pattern" "place" "I" "PatternText" : Cond).before A U = true := va_Nw.use rfl (h.1 _ (List.mem_of_getElem? (i := 13) rfl))
theorem nv_313 {U : State} (h : ga_N U) : va_Nw (Cond.fieldLinkNest "PatternText$IssueList" 84 "PatternText$Pattern" "place" "I" "PatternText" : Cond) U := h.1 _ (List.mem_of_getElem? (i := 13) rfl)
theorem nw_315 {U : State} {A : Array Value} (h : ga_N U) : (Cond.fieldLinkNest "PatternText" 134 "PatternText$Pattern" "signs" "[I" "PatternText" : Cond).before A U = true := va_Nw.use rfl (h.1 _ (List.mem_of_getElem? (i := 14) rfl))
theorem nv_315 {U : State} (h : ga_N U) : va_Nw (Cond.fieldLinkNest "PatternText" 134 "PatternText$Pattern" "signs" "[I" "PatternText" : Cond) U := h.1 _ (List.mem_of_getElem? (i := 14) rfl)
theorem nw_317 {U : State} {A : Array Value} (h : ga_N U) : (Cond.fieldLinkNest "PatternText$IssueList" 75 "PatternText$Pattern" "stepDays" "I" "PatternText" : Cond).before A U = true := va_Nw.use rfl (h.1 _ (List.mem_of_getElem? (i := 15) rfl))
theorem nv_317 {U : State} (h : ga_N U) : va_Nw (Cond.fieldLinkNest "PatternText$IssueList" 75 "PatternText$Pattern" "stepDays" "I" "PatternText" : Cond) U := h.1 _ (List.mem_of_getElem? (i := 15) rfl)
theorem ga_in {y : MethodName} {cd : ByteArray} {n : Nat} {r : Option FieldType} (h : Cond.code y cd n r ∈ ga_tbl) : GoodIn ga_tbl (.code y cd n r :: ga_tbl) := fun w hw => by
  rcases List.mem_cons.mp hw with e | e
  · subst e; exact ⟨h, ga_good h⟩
  · exact ⟨e, ga_good e⟩
theorem ga_V {own C : String} {i : Nat} {y : MethodName} {ws : List Cond} (h1 : Cond.methodLink own i y ∈ ga_tbl) (h2 : Cond.instanceMethod y ∈ ga_tbl) (h3 : Cond.selects C y y ∈ ga_tbl) (h4 : Cond.initialized C ∈ ga_tbl) (h : GoodIn ga_tbl ws) : GoodIn ga_tbl (wsV own i C y ws) := fun w hw => by
  rcases List.mem_append.mp hw with e | e
  · simp only [List.mem_cons, List.not_mem_nil, or_false] at e
    rcases e with e | e | e | e <;> subst e
    · exact ⟨h1, ga_good h1⟩
    · exact ⟨h2, ga_good h2⟩
    · exact ⟨h3, ga_good h3⟩
    · exact ⟨h4, ga_good h4⟩
  · exact h w e
theorem ga_S {own : String} {i : Nat} {y : MethodName} {ws : List Cond} (h1 : Cond.methodLink own i y ∈ ga_tbl) (h2 : Cond.static y ∈ ga_tbl) (h4 : Cond.initialized own ∈ ga_tbl) (h : GoodIn ga_tbl ws) : GoodIn ga_tbl (wsS own i y ws) := fun w hw => by
  rcases List.mem_append.mp hw with e | e
  · simp only [List.mem_cons, List.not_mem_nil, or_false] at e
    rcases e with e | e | e <;> subst e
    · exact ⟨h1, ga_good h1⟩
    · exact ⟨h2, ga_good h2⟩
    · exact ⟨h4, ga_good h4⟩
  · exact h w e
theorem ga_T {own : String} {i : Nat} {y : MethodName} {ws : List Cond} (h1 : Cond.methodLink own i y ∈ ga_tbl) (h2 : Cond.static y ∈ ga_tbl) (h4 : Cond.initialized y.cls ∈ ga_tbl) (h : GoodIn ga_tbl ws) : GoodIn ga_tbl (va_wsS own i y ws) := fun w hw => by
  rcases List.mem_append.mp hw with e | e
  · simp only [List.mem_cons, List.not_mem_nil, or_false] at e
    rcases e with e | e | e <;> subst e
    · exact ⟨h1, ga_good h1⟩
    · exact ⟨h2, ga_good h2⟩
    · exact ⟨h4, ga_good h4⟩
  · exact h w e
