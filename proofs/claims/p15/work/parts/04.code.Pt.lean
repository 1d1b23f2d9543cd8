/-! decode rows of PatternText$Pattern -/
theorem d_Pt_init_0 : decode b_Pt_init 0 = .ok (.aload_n 0, 1) := by decide +kernel
theorem d_Pt_init_1 : decode b_Pt_init 1 = .ok (.invokespecial 3, 3) := by decide +kernel
theorem d_Pt_init_4 : decode b_Pt_init 4 = .ok (.aload_n 0, 1) := by decide +kernel
theorem d_Pt_init_5 : decode b_Pt_init 5 = .ok (.iload_n 1, 1) := by decide +kernel
theorem d_Pt_init_6 : decode b_Pt_init 6 = .ok (.putfield 9, 3) := by decide +kernel
theorem d_Pt_init_9 : decode b_Pt_init 9 = .ok (.aload_n 0, 1) := by decide +kernel
theorem d_Pt_init_10 : decode b_Pt_init 10 = .ok (.aload_n 2, 1) := by decide +kernel
theorem d_Pt_init_11 : decode b_Pt_init 11 = .ok (.putfield 15, 3) := by decide +kernel
theorem d_Pt_init_14 : decode b_Pt_init 14 = .ok (.aload_n 0, 1) := by decide +kernel
theorem d_Pt_init_15 : decode b_Pt_init 15 = .ok (.iload_n 3, 1) := by decide +kernel
theorem d_Pt_init_16 : decode b_Pt_init 16 = .ok (.putfield 19, 3) := by decide +kernel
theorem d_Pt_init_19 : decode b_Pt_init 19 = .ok (.aload_n 0, 1) := by decide +kernel
theorem d_Pt_init_20 : decode b_Pt_init 20 = .ok (.iload 4, 2) := by decide +kernel
theorem d_Pt_init_22 : decode b_Pt_init 22 = .ok (.putfield 22, 3) := by decide +kernel
theorem d_Pt_init_25 : decode b_Pt_init 25 = .ok (.aload_n 0, 1) := by decide +kernel
theorem d_Pt_init_26 : decode b_Pt_init 26 = .ok (.iload 5, 2) := by decide +kernel
theorem d_Pt_init_28 : decode b_Pt_init 28 = .ok (.putfield 25, 3) := by decide +kernel
theorem d_Pt_init_31 : decode b_Pt_init 31 = .ok (.aload_n 0, 1) := by decide +kernel
theorem d_Pt_init_32 : decode b_Pt_init 32 = .ok (.iload 6, 2) := by decide +kernel
theorem d_Pt_init_34 : decode b_Pt_init 34 = .ok (.putfield 28, 3) := by decide +kernel
theorem d_Pt_init_37 : decode b_Pt_init 37 = .ok (.aload_n 0, 1) := by decide +kernel
theorem d_Pt_init_38 : decode b_Pt_init 38 = .ok (.iload 7, 2) := by decide +kernel
theorem d_Pt_init_40 : decode b_Pt_init 40 = .ok (.putfield 31, 3) := by decide +kernel
theorem d_Pt_init_43 : decode b_Pt_init 43 = .ok (.return_, 1) := by decide +kernel
theorem d_Pt_hasIssueOn_0 : decode b_Pt_hasIssueOn 0 = .ok (.iload_n 1, 1) := by decide +kernel
theorem d_Pt_hasIssueOn_1 : decode b_Pt_hasIssueOn 1 = .ok (.bipush 30, 2) := by decide +kernel
theorem d_Pt_hasIssueOn_3 : decode b_Pt_hasIssueOn 3 = .ok (.idiv, 1) := by decide +kernel
theorem d_Pt_hasIssueOn_4 : decode b_Pt_hasIssueOn 4 = .ok (.bipush 12, 2) := by decide +kernel
theorem d_Pt_hasIssueOn_6 : decode b_Pt_hasIssueOn 6 = .ok (.irem, 1) := by decide +kernel
theorem d_Pt_hasIssueOn_7 : decode b_Pt_hasIssueOn 7 = .ok (.istore_n 2, 1) := by decide +kernel
theorem d_Pt_hasIssueOn_8 : decode b_Pt_hasIssueOn 8 = .ok (.aload_n 0, 1) := by decide +kernel
theorem d_Pt_hasIssueOn_9 : decode b_Pt_hasIssueOn 9 = .ok (.getfield 22, 3) := by decide +kernel
theorem d_Pt_hasIssueOn_12 : decode b_Pt_hasIssueOn 12 = .ok (.iconst 1, 1) := by decide +kernel
theorem d_Pt_hasIssueOn_13 : decode b_Pt_hasIssueOn 13 = .ok (.iload_n 2, 1) := by decide +kernel
theorem d_Pt_hasIssueOn_14 : decode b_Pt_hasIssueOn 14 = .ok (.ishl, 1) := by decide +kernel
theorem d_Pt_hasIssueOn_15 : decode b_Pt_hasIssueOn 15 = .ok (.iand, 1) := by decide +kernel
theorem d_Pt_hasIssueOn_16 : decode b_Pt_hasIssueOn 16 = .ok (.ifCond .ne 7, 3) := by decide +kernel
theorem d_Pt_hasIssueOn_19 : decode b_Pt_hasIssueOn 19 = .ok (.iconst 1, 1) := by decide +kernel
theorem d_Pt_hasIssueOn_20 : decode b_Pt_hasIssueOn 20 = .ok (.goto 4, 3) := by decide +kernel
theorem d_Pt_hasIssueOn_23 : decode b_Pt_hasIssueOn 23 = .ok (.iconst 0, 1) := by decide +kernel
theorem d_Pt_hasIssueOn_24 : decode b_Pt_hasIssueOn 24 = .ok (.ireturn, 1) := by decide +kernel
theorem d_Pt_stepWithIssue_0 : decode b_Pt_stepWithIssue 0 = .ok (.iload_n 1, 1) := by decide +kernel
theorem d_Pt_stepWithIssue_1 : decode b_Pt_stepWithIssue 1 = .ok (.istore_n 2, 1) := by decide +kernel
theorem d_Pt_stepWithIssue_2 : decode b_Pt_stepWithIssue 2 = .ok (.iconst 0, 1) := by decide +kernel
theorem d_Pt_stepWithIssue_3 : decode b_Pt_stepWithIssue 3 = .ok (.istore_n 3, 1) := by decide +kernel
theorem d_Pt_stepWithIssue_4 : decode b_Pt_stepWithIssue 4 = .ok (.iload_n 3, 1) := by decide +kernel
theorem d_Pt_stepWithIssue_5 : decode b_Pt_stepWithIssue 5 = .ok (.sipush 1800, 3) := by decide +kernel
theorem d_Pt_stepWithIssue_8 : decode b_Pt_stepWithIssue 8 = .ok (.if_icmp .ge 43, 3) := by decide +kernel
theorem d_Pt_stepWithIssue_11 : decode b_Pt_stepWithIssue 11 = .ok (.iload_n 2, 1) := by decide +kernel
theorem d_Pt_stepWithIssue_12 : decode b_Pt_stepWithIssue 12 = .ok (.iload_n 1, 1) := by decide +kernel
theorem d_Pt_stepWithIssue_13 : decode b_Pt_stepWithIssue 13 = .ok (.isub, 1) := by decide +kernel
theorem d_Pt_stepWithIssue_14 : decode b_Pt_stepWithIssue 14 = .ok (.sipush 1800, 3) := by decide +kernel
theorem d_Pt_stepWithIssue_17 : decode b_Pt_stepWithIssue 17 = .ok (.if_icmp .ge 9, 3) := by decide +kernel
theorem d_Pt_stepWithIssue_20 : decode b_Pt_stepWithIssue 20 = .ok (.iload_n 2, 1) := by decide +kernel
theorem d_Pt_stepWithIssue_21 : decode b_Pt_stepWithIssue 21 = .ok (.ldc 35, 2) := by decide +kernel
theorem d_Pt_stepWithIssue_23 : decode b_Pt_stepWithIssue 23 = .ok (.if_icmp .le 5, 3) := by decide +kernel
theorem d_Pt_stepWithIssue_26 : decode b_Pt_stepWithIssue 26 = .ok (.iconst (-1), 1) := by decide +kernel
theorem d_Pt_stepWithIssue_27 : decode b_Pt_stepWithIssue 27 = .ok (.ireturn, 1) := by decide +kernel
theorem d_Pt_stepWithIssue_28 : decode b_Pt_stepWithIssue 28 = .ok (.aload_n 0, 1) := by decide +kernel
theorem d_Pt_stepWithIssue_29 : decode b_Pt_stepWithIssue 29 = .ok (.iload_n 2, 1) := by decide +kernel
theorem d_Pt_stepWithIssue_30 : decode b_Pt_stepWithIssue 30 = .ok (.invokevirtual 36, 3) := by decide +kernel
theorem d_Pt_stepWithIssue_33 : decode b_Pt_stepWithIssue 33 = .ok (.ifCond .eq 5, 3) := by decide +kernel
theorem d_Pt_stepWithIssue_36 : decode b_Pt_stepWithIssue 36 = .ok (.iload_n 2, 1) := by decide +kernel
theorem d_Pt_stepWithIssue_37 : decode b_Pt_stepWithIssue 37 = .ok (.ireturn, 1) := by decide +kernel
theorem d_Pt_stepWithIssue_38 : decode b_Pt_stepWithIssue 38 = .ok (.iload_n 2, 1) := by decide +kernel
theorem d_Pt_stepWithIssue_39 : decode b_Pt_stepWithIssue 39 = .ok (.aload_n 0, 1) := by decide +kernel
theorem d_Pt_stepWithIssue_40 : decode b_Pt_stepWithIssue 40 = .ok (.getfield 19, 3) := by decide +kernel
theorem d_Pt_stepWithIssue_43 : decode b_Pt_stepWithIssue 43 = .ok (.iadd, 1) := by decide +kernel
theorem d_Pt_stepWithIssue_44 : decode b_Pt_stepWithIssue 44 = .ok (.istore_n 2, 1) := by decide +kernel
theorem d_Pt_stepWithIssue_45 : decode b_Pt_stepWithIssue 45 = .ok (.iinc 3 1, 3) := by decide +kernel
theorem d_Pt_stepWithIssue_48 : decode b_Pt_stepWithIssue 48 = .ok (.goto (-44), 3) := by decide +kernel
theorem d_Pt_stepWithIssue_51 : decode b_Pt_stepWithIssue 51 = .ok (.iconst (-1), 1) := by decide +kernel
theorem d_Pt_stepWithIssue_52 : decode b_Pt_stepWithIssue 52 = .ok (.ireturn, 1) := by decide +kernel
theorem d_Pt_issuesInYearFrom_0 : decode b_Pt_issuesInYearFrom 0 = .ok (.iload_n 1, 1) := by decide +kernel
theorem d_Pt_issuesInYearFrom_1 : decode b_Pt_issuesInYearFrom 1 = .ok (.sipush 360, 3) := by decide +kernel
theorem d_Pt_issuesInYearFrom_4 : decode b_Pt_issuesInYearFrom 4 = .ok (.iadd, 1) := by decide +kernel
theorem d_Pt_issuesInYearFrom_5 : decode b_Pt_issuesInYearFrom 5 = .ok (.iconst 1, 1) := by decide +kernel
theorem d_Pt_issuesInYearFrom_6 : decode b_Pt_issuesInYearFrom 6 = .ok (.isub, 1) := by decide +kernel
theorem d_Pt_issuesInYearFrom_7 : decode b_Pt_issuesInYearFrom 7 = .ok (.ldc 35, 2) := by decide +kernel
theorem d_Pt_issuesInYearFrom_9 : decode b_Pt_issuesInYearFrom 9 = .ok (.invokestatic 40, 3) := by decide +kernel
theorem d_Pt_issuesInYearFrom_12 : decode b_Pt_issuesInYearFrom 12 = .ok (.istore_n 2, 1) := by decide +kernel
theorem d_Pt_issuesInYearFrom_13 : decode b_Pt_issuesInYearFrom 13 = .ok (.iconst 0, 1) := by decide +kernel
theorem d_Pt_issuesInYearFrom_14 : decode b_Pt_issuesInYearFrom 14 = .ok (.istore_n 3, 1) := by decide +kernel
theorem d_Pt_issuesInYearFrom_15 : decode b_Pt_issuesInYearFrom 15 = .ok (.iload_n 1, 1) := by decide +kernel
theorem d_Pt_issuesInYearFrom_16 : decode b_Pt_issuesInYearFrom 16 = .ok (.istore 4, 2) := by decide +kernel
theorem d_Pt_issuesInYearFrom_18 : decode b_Pt_issuesInYearFrom 18 = .ok (.iconst 0, 1) := by decide +kernel
theorem d_Pt_issuesInYearFrom_19 : decode b_Pt_issuesInYearFrom 19 = .ok (.istore 5, 2) := by decide +kernel
theorem d_Pt_issuesInYearFrom_21 : decode b_Pt_issuesInYearFrom 21 = .ok (.iload 5, 2) := by decide +kernel
theorem d_Pt_issuesInYearFrom_23 : decode b_Pt_issuesInYearFrom 23 = .ok (.sipush 360, 3) := by decide +kernel
theorem d_Pt_issuesInYearFrom_26 : decode b_Pt_issuesInYearFrom 26 = .ok (.if_icmp .ge 36, 3) := by decide +kernel
theorem d_Pt_issuesInYearFrom_29 : decode b_Pt_issuesInYearFrom 29 = .ok (.iload 4, 2) := by decide +kernel
theorem d_Pt_issuesInYearFrom_31 : decode b_Pt_issuesInYearFrom 31 = .ok (.iload_n 2, 1) := by decide +kernel
theorem d_Pt_issuesInYearFrom_32 : decode b_Pt_issuesInYearFrom 32 = .ok (.if_icmp .gt 30, 3) := by decide +kernel
theorem d_Pt_issuesInYearFrom_35 : decode b_Pt_issuesInYearFrom 35 = .ok (.aload_n 0, 1) := by decide +kernel
theorem d_Pt_issuesInYearFrom_36 : decode b_Pt_issuesInYearFrom 36 = .ok (.iload 4, 2) := by decide +kernel
theorem d_Pt_issuesInYearFrom_38 : decode b_Pt_issuesInYearFrom 38 = .ok (.invokevirtual 36, 3) := by decide +kernel
theorem d_Pt_issuesInYearFrom_41 : decode b_Pt_issuesInYearFrom 41 = .ok (.ifCond .eq 6, 3) := by decide +kernel
theorem d_Pt_issuesInYearFrom_44 : decode b_Pt_issuesInYearFrom 44 = .ok (.iinc 3 1, 3) := by decide +kernel
theorem d_Pt_issuesInYearFrom_47 : decode b_Pt_issuesInYearFrom 47 = .ok (.iload 4, 2) := by decide +kernel
theorem d_Pt_issuesInYearFrom_49 : decode b_Pt_issuesInYearFrom 49 = .ok (.aload_n 0, 1) := by decide +kernel
theorem d_Pt_issuesInYearFrom_50 : decode b_Pt_issuesInYearFrom 50 = .ok (.getfield 19, 3) := by decide +kernel
theorem d_Pt_issuesInYearFrom_53 : decode b_Pt_issuesInYearFrom 53 = .ok (.iadd, 1) := by decide +kernel
theorem d_Pt_issuesInYearFrom_54 : decode b_Pt_issuesInYearFrom 54 = .ok (.istore 4, 2) := by decide +kernel
theorem d_Pt_issuesInYearFrom_56 : decode b_Pt_issuesInYearFrom 56 = .ok (.iinc 5 1, 3) := by decide +kernel
theorem d_Pt_issuesInYearFrom_59 : decode b_Pt_issuesInYearFrom 59 = .ok (.goto (-38), 3) := by decide +kernel
theorem d_Pt_issuesInYearFrom_62 : decode b_Pt_issuesInYearFrom 62 = .ok (.iload_n 3, 1) := by decide +kernel
theorem d_Pt_issuesInYearFrom_63 : decode b_Pt_issuesInYearFrom 63 = .ok (.ireturn, 1) := by decide +kernel
theorem d_Pt_numbersOfIssue_0 : decode b_Pt_numbersOfIssue 0 = .ok (.aload_n 0, 1) := by decide +kernel
theorem d_Pt_numbersOfIssue_1 : decode b_Pt_numbersOfIssue 1 = .ok (.getfield 25, 3) := by decide +kernel
theorem d_Pt_numbersOfIssue_4 : decode b_Pt_numbersOfIssue 4 = .ok (.ifCond .le 16, 3) := by decide +kernel
theorem d_Pt_numbersOfIssue_7 : decode b_Pt_numbersOfIssue 7 = .ok (.iload_n 1, 1) := by decide +kernel
theorem d_Pt_numbersOfIssue_8 : decode b_Pt_numbersOfIssue 8 = .ok (.aload_n 0, 1) := by decide +kernel
theorem d_Pt_numbersOfIssue_9 : decode b_Pt_numbersOfIssue 9 = .ok (.getfield 25, 3) := by decide +kernel
theorem d_Pt_numbersOfIssue_12 : decode b_Pt_numbersOfIssue 12 = .ok (.irem, 1) := by decide +kernel
theorem d_Pt_numbersOfIssue_13 : decode b_Pt_numbersOfIssue 13 = .ok (.ifCond .ne 7, 3) := by decide +kernel
theorem d_Pt_numbersOfIssue_16 : decode b_Pt_numbersOfIssue 16 = .ok (.iconst 2, 1) := by decide +kernel
theorem d_Pt_numbersOfIssue_17 : decode b_Pt_numbersOfIssue 17 = .ok (.goto 4, 3) := by decide +kernel
theorem d_Pt_numbersOfIssue_20 : decode b_Pt_numbersOfIssue 20 = .ok (.iconst 1, 1) := by decide +kernel
theorem d_Pt_numbersOfIssue_21 : decode b_Pt_numbersOfIssue 21 = .ok (.ireturn, 1) := by decide +kernel
theorem d_Pt_volumeOf_0 : decode b_Pt_volumeOf 0 = .ok (.aload_n 0, 1) := by decide +kernel
theorem d_Pt_volumeOf_1 : decode b_Pt_volumeOf 1 = .ok (.getfield 28, 3) := by decide +kernel
theorem d_Pt_volumeOf_4 : decode b_Pt_volumeOf 4 = .ok (.ifCond .le 16, 3) := by decide +kernel
theorem d_Pt_volumeOf_7 : decode b_Pt_volumeOf 7 = .ok (.iload_n 1, 1) := by decide +kernel
theorem d_Pt_volumeOf_8 : decode b_Pt_volumeOf 8 = .ok (.iconst 1, 1) := by decide +kernel
theorem d_Pt_volumeOf_9 : decode b_Pt_volumeOf 9 = .ok (.isub, 1) := by decide +kernel
theorem d_Pt_volumeOf_10 : decode b_Pt_volumeOf 10 = .ok (.aload_n 0, 1) := by decide +kernel
theorem d_Pt_volumeOf_11 : decode b_Pt_volumeOf 11 = .ok (.getfield 28, 3) := by decide +kernel
theorem d_Pt_volumeOf_14 : decode b_Pt_volumeOf 14 = .ok (.idiv, 1) := by decide +kernel
theorem d_Pt_volumeOf_15 : decode b_Pt_volumeOf 15 = .ok (.iconst 1, 1) := by decide +kernel
theorem d_Pt_volumeOf_16 : decode b_Pt_volumeOf 16 = .ok (.iadd, 1) := by decide +kernel
theorem d_Pt_volumeOf_17 : decode b_Pt_volumeOf 17 = .ok (.goto 4, 3) := by decide +kernel
theorem d_Pt_volumeOf_20 : decode b_Pt_volumeOf 20 = .ok (.iconst 0, 1) := by decide +kernel
theorem d_Pt_volumeOf_21 : decode b_Pt_volumeOf 21 = .ok (.ireturn, 1) := by decide +kernel
theorem d_Pt_asTold_0 : decode b_Pt_asTold 0 = .ok (.aload_n 0, 1) := by decide +kernel
theorem d_Pt_asTold_1 : decode b_Pt_asTold 1 = .ok (.getfield 31, 3) := by decide +kernel
theorem d_Pt_asTold_4 : decode b_Pt_asTold 4 = .ok (.ifCond .eq 23, 3) := by decide +kernel
theorem d_Pt_asTold_7 : decode b_Pt_asTold 7 = .ok (.aload_n 0, 1) := by decide +kernel
theorem d_Pt_asTold_8 : decode b_Pt_asTold 8 = .ok (.getfield 28, 3) := by decide +kernel
theorem d_Pt_asTold_11 : decode b_Pt_asTold 11 = .ok (.ifCond .le 16, 3) := by decide +kernel
theorem d_Pt_asTold_14 : decode b_Pt_asTold 14 = .ok (.iload_n 1, 1) := by decide +kernel
theorem d_Pt_asTold_15 : decode b_Pt_asTold 15 = .ok (.iconst 1, 1) := by decide +kernel
theorem d_Pt_asTold_16 : decode b_Pt_asTold 16 = .ok (.isub, 1) := by decide +kernel
theorem d_Pt_asTold_17 : decode b_Pt_asTold 17 = .ok (.aload_n 0, 1) := by decide +kernel
theorem d_Pt_asTold_18 : decode b_Pt_asTold 18 = .ok (.getfield 28, 3) := by decide +kernel
theorem d_Pt_asTold_21 : decode b_Pt_asTold 21 = .ok (.irem, 1) := by decide +kernel
theorem d_Pt_asTold_22 : decode b_Pt_asTold 22 = .ok (.iconst 1, 1) := by decide +kernel
theorem d_Pt_asTold_23 : decode b_Pt_asTold 23 = .ok (.iadd, 1) := by decide +kernel
theorem d_Pt_asTold_24 : decode b_Pt_asTold 24 = .ok (.goto 4, 3) := by decide +kernel
theorem d_Pt_asTold_27 : decode b_Pt_asTold 27 = .ok (.iload_n 1, 1) := by decide +kernel
theorem d_Pt_asTold_28 : decode b_Pt_asTold 28 = .ok (.ireturn, 1) := by decide +kernel
