/-! decode rows of PatternText$PatternReader -/
theorem d_Rd_init_0 : decode b_Rd_init 0 = .ok (.aload_n 0, 1) := by decide +kernel
theorem d_Rd_init_1 : decode b_Rd_init 1 = .ok (.invokespecial 3, 3) := by decide +kernel
theorem d_Rd_init_4 : decode b_Rd_init 4 = .ok (.aload_n 0, 1) := by decide +kernel
theorem d_Rd_init_5 : decode b_Rd_init 5 = .ok (.bipush 120, 2) := by decide +kernel
theorem d_Rd_init_7 : decode b_Rd_init 7 = .ok (.newarray .int, 2) := by decide +kernel
theorem d_Rd_init_9 : decode b_Rd_init 9 = .ok (.putfield 9, 3) := by decide +kernel
theorem d_Rd_init_12 : decode b_Rd_init 12 = .ok (.aload_n 0, 1) := by decide +kernel
theorem d_Rd_init_13 : decode b_Rd_init 13 = .ok (.iconst 0, 1) := by decide +kernel
theorem d_Rd_init_14 : decode b_Rd_init 14 = .ok (.putfield 15, 3) := by decide +kernel
theorem d_Rd_init_17 : decode b_Rd_init 17 = .ok (.aload_n 0, 1) := by decide +kernel
theorem d_Rd_init_18 : decode b_Rd_init 18 = .ok (.iconst 0, 1) := by decide +kernel
theorem d_Rd_init_19 : decode b_Rd_init 19 = .ok (.putfield 19, 3) := by decide +kernel
theorem d_Rd_init_22 : decode b_Rd_init 22 = .ok (.aload_n 0, 1) := by decide +kernel
theorem d_Rd_init_23 : decode b_Rd_init 23 = .ok (.iconst 0, 1) := by decide +kernel
theorem d_Rd_init_24 : decode b_Rd_init 24 = .ok (.putfield 22, 3) := by decide +kernel
theorem d_Rd_init_27 : decode b_Rd_init 27 = .ok (.aload_n 0, 1) := by decide +kernel
theorem d_Rd_init_28 : decode b_Rd_init 28 = .ok (.iconst 0, 1) := by decide +kernel
theorem d_Rd_init_29 : decode b_Rd_init 29 = .ok (.putfield 25, 3) := by decide +kernel
theorem d_Rd_init_32 : decode b_Rd_init 32 = .ok (.aload_n 0, 1) := by decide +kernel
theorem d_Rd_init_33 : decode b_Rd_init 33 = .ok (.iconst 0, 1) := by decide +kernel
theorem d_Rd_init_34 : decode b_Rd_init 34 = .ok (.putfield 28, 3) := by decide +kernel
theorem d_Rd_init_37 : decode b_Rd_init 37 = .ok (.aload_n 0, 1) := by decide +kernel
theorem d_Rd_init_38 : decode b_Rd_init 38 = .ok (.iconst 0, 1) := by decide +kernel
theorem d_Rd_init_39 : decode b_Rd_init 39 = .ok (.putfield 31, 3) := by decide +kernel
theorem d_Rd_init_42 : decode b_Rd_init 42 = .ok (.aload_n 0, 1) := by decide +kernel
theorem d_Rd_init_43 : decode b_Rd_init 43 = .ok (.iconst 0, 1) := by decide +kernel
theorem d_Rd_init_44 : decode b_Rd_init 44 = .ok (.putfield 34, 3) := by decide +kernel
theorem d_Rd_init_47 : decode b_Rd_init 47 = .ok (.aload_n 0, 1) := by decide +kernel
theorem d_Rd_init_48 : decode b_Rd_init 48 = .ok (.iconst 0, 1) := by decide +kernel
theorem d_Rd_init_49 : decode b_Rd_init 49 = .ok (.putfield 37, 3) := by decide +kernel
theorem d_Rd_init_52 : decode b_Rd_init 52 = .ok (.return_, 1) := by decide +kernel
theorem d_Rd_collect_0 : decode b_Rd_collect 0 = .ok (.aload_n 0, 1) := by decide +kernel
theorem d_Rd_collect_1 : decode b_Rd_collect 1 = .ok (.getfield 15, 3) := by decide +kernel
theorem d_Rd_collect_4 : decode b_Rd_collect 4 = .ok (.bipush 120, 2) := by decide +kernel
theorem d_Rd_collect_6 : decode b_Rd_collect 6 = .ok (.if_icmp .ge 23, 3) := by decide +kernel
theorem d_Rd_collect_9 : decode b_Rd_collect 9 = .ok (.aload_n 0, 1) := by decide +kernel
theorem d_Rd_collect_10 : decode b_Rd_collect 10 = .ok (.getfield 9, 3) := by decide +kernel
theorem d_Rd_collect_13 : decode b_Rd_collect 13 = .ok (.aload_n 0, 1) := by decide +kernel
theorem d_Rd_collect_14 : decode b_Rd_collect 14 = .ok (.getfield 15, 3) := by decide +kernel
theorem d_Rd_collect_17 : decode b_Rd_collect 17 = .ok (.iload_n 1, 1) := by decide +kernel
theorem d_Rd_collect_18 : decode b_Rd_collect 18 = .ok (.iastore, 1) := by decide +kernel
theorem d_Rd_collect_19 : decode b_Rd_collect 19 = .ok (.aload_n 0, 1) := by decide +kernel
theorem d_Rd_collect_20 : decode b_Rd_collect 20 = .ok (.dup, 1) := by decide +kernel
theorem d_Rd_collect_21 : decode b_Rd_collect 21 = .ok (.getfield 15, 3) := by decide +kernel
theorem d_Rd_collect_24 : decode b_Rd_collect 24 = .ok (.iconst 1, 1) := by decide +kernel
theorem d_Rd_collect_25 : decode b_Rd_collect 25 = .ok (.iadd, 1) := by decide +kernel
theorem d_Rd_collect_26 : decode b_Rd_collect 26 = .ok (.putfield 15, 3) := by decide +kernel
theorem d_Rd_collect_29 : decode b_Rd_collect 29 = .ok (.return_, 1) := by decide +kernel
theorem d_Rd_forget_0 : decode b_Rd_forget 0 = .ok (.aload_n 0, 1) := by decide +kernel
theorem d_Rd_forget_1 : decode b_Rd_forget 1 = .ok (.iconst 0, 1) := by decide +kernel
theorem d_Rd_forget_2 : decode b_Rd_forget 2 = .ok (.putfield 15, 3) := by decide +kernel
theorem d_Rd_forget_5 : decode b_Rd_forget 5 = .ok (.return_, 1) := by decide +kernel
theorem d_Rd_makePattern_0 : decode b_Rd_makePattern 0 = .ok (.aload_n 0, 1) := by decide +kernel
theorem d_Rd_makePattern_1 : decode b_Rd_makePattern 1 = .ok (.getfield 15, 3) := by decide +kernel
theorem d_Rd_makePattern_4 : decode b_Rd_makePattern 4 = .ok (.newarray .int, 2) := by decide +kernel
theorem d_Rd_makePattern_6 : decode b_Rd_makePattern 6 = .ok (.astore_n 2, 1) := by decide +kernel
theorem d_Rd_makePattern_7 : decode b_Rd_makePattern 7 = .ok (.aload_n 0, 1) := by decide +kernel
theorem d_Rd_makePattern_8 : decode b_Rd_makePattern 8 = .ok (.getfield 9, 3) := by decide +kernel
theorem d_Rd_makePattern_11 : decode b_Rd_makePattern 11 = .ok (.iconst 0, 1) := by decide +kernel
theorem d_Rd_makePattern_12 : decode b_Rd_makePattern 12 = .ok (.aload_n 2, 1) := by decide +kernel
theorem d_Rd_makePattern_13 : decode b_Rd_makePattern 13 = .ok (.iconst 0, 1) := by decide +kernel
theorem d_Rd_makePattern_14 : decode b_Rd_makePattern 14 = .ok (.aload_n 0, 1) := by decide +kernel
theorem d_Rd_makePattern_15 : decode b_Rd_makePattern 15 = .ok (.getfield 15, 3) := by decide +kernel
theorem d_Rd_makePattern_18 : decode b_Rd_makePattern 18 = .ok (.invokestatic 41, 3) := by decide +kernel
theorem d_Rd_makePattern_21 : decode b_Rd_makePattern 21 = .ok (.new 47, 3) := by decide +kernel
theorem d_Rd_makePattern_24 : decode b_Rd_makePattern 24 = .ok (.dup, 1) := by decide +kernel
theorem d_Rd_makePattern_25 : decode b_Rd_makePattern 25 = .ok (.iload_n 1, 1) := by decide +kernel
theorem d_Rd_makePattern_26 : decode b_Rd_makePattern 26 = .ok (.aload_n 2, 1) := by decide +kernel
theorem d_Rd_makePattern_27 : decode b_Rd_makePattern 27 = .ok (.aload_n 0, 1) := by decide +kernel
theorem d_Rd_makePattern_28 : decode b_Rd_makePattern 28 = .ok (.getfield 25, 3) := by decide +kernel
theorem d_Rd_makePattern_31 : decode b_Rd_makePattern 31 = .ok (.aload_n 0, 1) := by decide +kernel
theorem d_Rd_makePattern_32 : decode b_Rd_makePattern 32 = .ok (.getfield 28, 3) := by decide +kernel
theorem d_Rd_makePattern_35 : decode b_Rd_makePattern 35 = .ok (.aload_n 0, 1) := by decide +kernel
theorem d_Rd_makePattern_36 : decode b_Rd_makePattern 36 = .ok (.getfield 31, 3) := by decide +kernel
theorem d_Rd_makePattern_39 : decode b_Rd_makePattern 39 = .ok (.aload_n 0, 1) := by decide +kernel
theorem d_Rd_makePattern_40 : decode b_Rd_makePattern 40 = .ok (.getfield 34, 3) := by decide +kernel
theorem d_Rd_makePattern_43 : decode b_Rd_makePattern 43 = .ok (.aload_n 0, 1) := by decide +kernel
theorem d_Rd_makePattern_44 : decode b_Rd_makePattern 44 = .ok (.getfield 37, 3) := by decide +kernel
theorem d_Rd_makePattern_47 : decode b_Rd_makePattern 47 = .ok (.invokespecial 49, 3) := by decide +kernel
theorem d_Rd_makePattern_50 : decode b_Rd_makePattern 50 = .ok (.areturn, 1) := by decide +kernel
theorem d_Rd_understand_0 : decode b_Rd_understand 0 = .ok (.aload_n 0, 1) := by decide +kernel
theorem d_Rd_understand_1 : decode b_Rd_understand 1 = .ok (.iconst 0, 1) := by decide +kernel
theorem d_Rd_understand_2 : decode b_Rd_understand 2 = .ok (.putfield 19, 3) := by decide +kernel
theorem d_Rd_understand_5 : decode b_Rd_understand 5 = .ok (.aload_n 0, 1) := by decide +kernel
theorem d_Rd_understand_6 : decode b_Rd_understand 6 = .ok (.iconst 0, 1) := by decide +kernel
theorem d_Rd_understand_7 : decode b_Rd_understand 7 = .ok (.putfield 28, 3) := by decide +kernel
theorem d_Rd_understand_10 : decode b_Rd_understand 10 = .ok (.aload_n 0, 1) := by decide +kernel
theorem d_Rd_understand_11 : decode b_Rd_understand 11 = .ok (.iconst 0, 1) := by decide +kernel
theorem d_Rd_understand_12 : decode b_Rd_understand 12 = .ok (.putfield 31, 3) := by decide +kernel
theorem d_Rd_understand_15 : decode b_Rd_understand 15 = .ok (.aload_n 0, 1) := by decide +kernel
theorem d_Rd_understand_16 : decode b_Rd_understand 16 = .ok (.iconst 0, 1) := by decide +kernel
theorem d_Rd_understand_17 : decode b_Rd_understand 17 = .ok (.putfield 34, 3) := by decide +kernel
theorem d_Rd_understand_20 : decode b_Rd_understand 20 = .ok (.aload_n 0, 1) := by decide +kernel
theorem d_Rd_understand_21 : decode b_Rd_understand 21 = .ok (.iconst 0, 1) := by decide +kernel
theorem d_Rd_understand_22 : decode b_Rd_understand 22 = .ok (.putfield 37, 3) := by decide +kernel
theorem d_Rd_understand_25 : decode b_Rd_understand 25 = .ok (.aload_n 0, 1) := by decide +kernel
theorem d_Rd_understand_26 : decode b_Rd_understand 26 = .ok (.invokevirtual 52, 3) := by decide +kernel
theorem d_Rd_understand_29 : decode b_Rd_understand 29 = .ok (.ifCond .eq 21, 3) := by decide +kernel
theorem d_Rd_understand_32 : decode b_Rd_understand 32 = .ok (.aload_n 0, 1) := by decide +kernel
theorem d_Rd_understand_33 : decode b_Rd_understand 33 = .ok (.invokevirtual 56, 3) := by decide +kernel
theorem d_Rd_understand_36 : decode b_Rd_understand 36 = .ok (.ifCond .eq 14, 3) := by decide +kernel
theorem d_Rd_understand_39 : decode b_Rd_understand 39 = .ok (.aload_n 0, 1) := by decide +kernel
theorem d_Rd_understand_40 : decode b_Rd_understand 40 = .ok (.invokevirtual 59, 3) := by decide +kernel
theorem d_Rd_understand_43 : decode b_Rd_understand 43 = .ok (.ifCond .eq 7, 3) := by decide +kernel
theorem d_Rd_understand_46 : decode b_Rd_understand 46 = .ok (.iconst 1, 1) := by decide +kernel
theorem d_Rd_understand_47 : decode b_Rd_understand 47 = .ok (.goto 4, 3) := by decide +kernel
theorem d_Rd_understand_50 : decode b_Rd_understand 50 = .ok (.iconst 0, 1) := by decide +kernel
theorem d_Rd_understand_51 : decode b_Rd_understand 51 = .ok (.ireturn, 1) := by decide +kernel
theorem d_Rd_takeHowOften_0 : decode b_Rd_takeHowOften 0 = .ok (.aload_n 0, 1) := by decide +kernel
theorem d_Rd_takeHowOften_1 : decode b_Rd_takeHowOften 1 = .ok (.ldc 62, 2) := by decide +kernel
theorem d_Rd_takeHowOften_3 : decode b_Rd_takeHowOften 3 = .ok (.invokevirtual 64, 3) := by decide +kernel
theorem d_Rd_takeHowOften_6 : decode b_Rd_takeHowOften 6 = .ok (.ifCond .eq 27, 3) := by decide +kernel
theorem d_Rd_takeHowOften_9 : decode b_Rd_takeHowOften 9 = .ok (.aload_n 0, 1) := by decide +kernel
theorem d_Rd_takeHowOften_10 : decode b_Rd_takeHowOften 10 = .ok (.invokevirtual 68, 3) := by decide +kernel
theorem d_Rd_takeHowOften_13 : decode b_Rd_takeHowOften 13 = .ok (.ifCond .eq 20, 3) := by decide +kernel
theorem d_Rd_takeHowOften_16 : decode b_Rd_takeHowOften 16 = .ok (.aload_n 0, 1) := by decide +kernel
theorem d_Rd_takeHowOften_17 : decode b_Rd_takeHowOften 17 = .ok (.iconst 1, 1) := by decide +kernel
theorem d_Rd_takeHowOften_18 : decode b_Rd_takeHowOften 18 = .ok (.bipush 99, 2) := by decide +kernel
theorem d_Rd_takeHowOften_20 : decode b_Rd_takeHowOften 20 = .ok (.invokevirtual 71, 3) := by decide +kernel
theorem d_Rd_takeHowOften_23 : decode b_Rd_takeHowOften 23 = .ok (.ifCond .eq 10, 3) := by decide +kernel
theorem d_Rd_takeHowOften_26 : decode b_Rd_takeHowOften 26 = .ok (.aload_n 0, 1) := by decide +kernel
theorem d_Rd_takeHowOften_27 : decode b_Rd_takeHowOften 27 = .ok (.invokevirtual 68, 3) := by decide +kernel
theorem d_Rd_takeHowOften_30 : decode b_Rd_takeHowOften 30 = .ok (.ifCond .ne 5, 3) := by decide +kernel
theorem d_Rd_takeHowOften_33 : decode b_Rd_takeHowOften 33 = .ok (.iconst 0, 1) := by decide +kernel
theorem d_Rd_takeHowOften_34 : decode b_Rd_takeHowOften 34 = .ok (.ireturn, 1) := by decide +kernel
theorem d_Rd_takeHowOften_35 : decode b_Rd_takeHowOften 35 = .ok (.aload_n 0, 1) := by decide +kernel
theorem d_Rd_takeHowOften_36 : decode b_Rd_takeHowOften 36 = .ok (.ldc 75, 2) := by decide +kernel
theorem d_Rd_takeHowOften_38 : decode b_Rd_takeHowOften 38 = .ok (.invokevirtual 64, 3) := by decide +kernel
theorem d_Rd_takeHowOften_41 : decode b_Rd_takeHowOften 41 = .ok (.ifCond .eq 14, 3) := by decide +kernel
theorem d_Rd_takeHowOften_44 : decode b_Rd_takeHowOften 44 = .ok (.aload_n 0, 1) := by decide +kernel
theorem d_Rd_takeHowOften_45 : decode b_Rd_takeHowOften 45 = .ok (.aload_n 0, 1) := by decide +kernel
theorem d_Rd_takeHowOften_46 : decode b_Rd_takeHowOften 46 = .ok (.getfield 22, 3) := by decide +kernel
theorem d_Rd_takeHowOften_49 : decode b_Rd_takeHowOften 49 = .ok (.putfield 25, 3) := by decide +kernel
theorem d_Rd_takeHowOften_52 : decode b_Rd_takeHowOften 52 = .ok (.goto 51, 3) := by decide +kernel
theorem d_Rd_takeHowOften_55 : decode b_Rd_takeHowOften 55 = .ok (.aload_n 0, 1) := by decide +kernel
theorem d_Rd_takeHowOften_56 : decode b_Rd_takeHowOften 56 = .ok (.ldc 77, 2) := by decide +kernel
theorem d_Rd_takeHowOften_58 : decode b_Rd_takeHowOften 58 = .ok (.invokevirtual 64, 3) := by decide +kernel
theorem d_Rd_takeHowOften_61 : decode b_Rd_takeHowOften 61 = .ok (.ifCond .eq 17, 3) := by decide +kernel
theorem d_Rd_takeHowOften_64 : decode b_Rd_takeHowOften 64 = .ok (.aload_n 0, 1) := by decide +kernel
theorem d_Rd_takeHowOften_65 : decode b_Rd_takeHowOften 65 = .ok (.aload_n 0, 1) := by decide +kernel
theorem d_Rd_takeHowOften_66 : decode b_Rd_takeHowOften 66 = .ok (.getfield 22, 3) := by decide +kernel
theorem d_Rd_takeHowOften_69 : decode b_Rd_takeHowOften 69 = .ok (.bipush 7, 2) := by decide +kernel
theorem d_Rd_takeHowOften_71 : decode b_Rd_takeHowOften 71 = .ok (.imul, 1) := by decide +kernel
theorem d_Rd_takeHowOften_72 : decode b_Rd_takeHowOften 72 = .ok (.putfield 25, 3) := by decide +kernel
theorem d_Rd_takeHowOften_75 : decode b_Rd_takeHowOften 75 = .ok (.goto 28, 3) := by decide +kernel
theorem d_Rd_takeHowOften_78 : decode b_Rd_takeHowOften 78 = .ok (.aload_n 0, 1) := by decide +kernel
theorem d_Rd_takeHowOften_79 : decode b_Rd_takeHowOften 79 = .ok (.ldc 79, 2) := by decide +kernel
theorem d_Rd_takeHowOften_81 : decode b_Rd_takeHowOften 81 = .ok (.invokevirtual 64, 3) := by decide +kernel
theorem d_Rd_takeHowOften_84 : decode b_Rd_takeHowOften 84 = .ok (.ifCond .eq 17, 3) := by decide +kernel
theorem d_Rd_takeHowOften_87 : decode b_Rd_takeHowOften 87 = .ok (.aload_n 0, 1) := by decide +kernel
theorem d_Rd_takeHowOften_88 : decode b_Rd_takeHowOften 88 = .ok (.aload_n 0, 1) := by decide +kernel
theorem d_Rd_takeHowOften_89 : decode b_Rd_takeHowOften 89 = .ok (.getfield 22, 3) := by decide +kernel
theorem d_Rd_takeHowOften_92 : decode b_Rd_takeHowOften 92 = .ok (.bipush 30, 2) := by decide +kernel
theorem d_Rd_takeHowOften_94 : decode b_Rd_takeHowOften 94 = .ok (.imul, 1) := by decide +kernel
theorem d_Rd_takeHowOften_95 : decode b_Rd_takeHowOften 95 = .ok (.putfield 25, 3) := by decide +kernel
theorem d_Rd_takeHowOften_98 : decode b_Rd_takeHowOften 98 = .ok (.goto 5, 3) := by decide +kernel
theorem d_Rd_takeHowOften_101 : decode b_Rd_takeHowOften 101 = .ok (.iconst 0, 1) := by decide +kernel
theorem d_Rd_takeHowOften_102 : decode b_Rd_takeHowOften 102 = .ok (.ireturn, 1) := by decide +kernel
theorem d_Rd_takeHowOften_103 : decode b_Rd_takeHowOften 103 = .ok (.iconst 1, 1) := by decide +kernel
theorem d_Rd_takeHowOften_104 : decode b_Rd_takeHowOften 104 = .ok (.ireturn, 1) := by decide +kernel
theorem d_Rd_takeClauses_0 : decode b_Rd_takeClauses 0 = .ok (.aload_n 0, 1) := by decide +kernel
theorem d_Rd_takeClauses_1 : decode b_Rd_takeClauses 1 = .ok (.ldc 81, 2) := by decide +kernel
theorem d_Rd_takeClauses_3 : decode b_Rd_takeClauses 3 = .ok (.invokevirtual 83, 3) := by decide +kernel
theorem d_Rd_takeClauses_6 : decode b_Rd_takeClauses 6 = .ok (.ifCond .eq 19, 3) := by decide +kernel
theorem d_Rd_takeClauses_9 : decode b_Rd_takeClauses 9 = .ok (.aload_n 0, 1) := by decide +kernel
theorem d_Rd_takeClauses_10 : decode b_Rd_takeClauses 10 = .ok (.invokevirtual 68, 3) := by decide +kernel
theorem d_Rd_takeClauses_13 : decode b_Rd_takeClauses 13 = .ok (.ifCond .eq 10, 3) := by decide +kernel
theorem d_Rd_takeClauses_16 : decode b_Rd_takeClauses 16 = .ok (.aload_n 0, 1) := by decide +kernel
theorem d_Rd_takeClauses_17 : decode b_Rd_takeClauses 17 = .ok (.invokevirtual 86, 3) := by decide +kernel
theorem d_Rd_takeClauses_20 : decode b_Rd_takeClauses 20 = .ok (.ifCond .ne 5, 3) := by decide +kernel
theorem d_Rd_takeClauses_23 : decode b_Rd_takeClauses 23 = .ok (.iconst 0, 1) := by decide +kernel
theorem d_Rd_takeClauses_24 : decode b_Rd_takeClauses 24 = .ok (.ireturn, 1) := by decide +kernel
theorem d_Rd_takeClauses_25 : decode b_Rd_takeClauses 25 = .ok (.aload_n 0, 1) := by decide +kernel
theorem d_Rd_takeClauses_26 : decode b_Rd_takeClauses 26 = .ok (.ldc 89, 2) := by decide +kernel
theorem d_Rd_takeClauses_28 : decode b_Rd_takeClauses 28 = .ok (.invokevirtual 83, 3) := by decide +kernel
theorem d_Rd_takeClauses_31 : decode b_Rd_takeClauses 31 = .ok (.ifCond .eq 30, 3) := by decide +kernel
theorem d_Rd_takeClauses_34 : decode b_Rd_takeClauses 34 = .ok (.aload_n 0, 1) := by decide +kernel
theorem d_Rd_takeClauses_35 : decode b_Rd_takeClauses 35 = .ok (.invokevirtual 68, 3) := by decide +kernel
theorem d_Rd_takeClauses_38 : decode b_Rd_takeClauses 38 = .ok (.ifCond .eq 13, 3) := by decide +kernel
theorem d_Rd_takeClauses_41 : decode b_Rd_takeClauses 41 = .ok (.aload_n 0, 1) := by decide +kernel
theorem d_Rd_takeClauses_42 : decode b_Rd_takeClauses 42 = .ok (.iconst 2, 1) := by decide +kernel
theorem d_Rd_takeClauses_43 : decode b_Rd_takeClauses 43 = .ok (.bipush 99, 2) := by decide +kernel
theorem d_Rd_takeClauses_45 : decode b_Rd_takeClauses 45 = .ok (.invokevirtual 71, 3) := by decide +kernel
theorem d_Rd_takeClauses_48 : decode b_Rd_takeClauses 48 = .ok (.ifCond .ne 5, 3) := by decide +kernel
theorem d_Rd_takeClauses_51 : decode b_Rd_takeClauses 51 = .ok (.iconst 0, 1) := by decide +kernel
theorem d_Rd_takeClauses_52 : decode b_Rd_takeClauses 52 = .ok (.ireturn, 1) := by decide +kernel
theorem d_Rd_takeClauses_53 : decode b_Rd_takeClauses 53 = .ok (.aload_n 0, 1) := by decide +kernel
theorem d_Rd_takeClauses_54 : decode b_Rd_takeClauses 54 = .ok (.aload_n 0, 1) := by decide +kernel
theorem d_Rd_takeClauses_55 : decode b_Rd_takeClauses 55 = .ok (.getfield 22, 3) := by decide +kernel
theorem d_Rd_takeClauses_58 : decode b_Rd_takeClauses 58 = .ok (.putfield 31, 3) := by decide +kernel
theorem d_Rd_takeClauses_61 : decode b_Rd_takeClauses 61 = .ok (.aload_n 0, 1) := by decide +kernel
theorem d_Rd_takeClauses_62 : decode b_Rd_takeClauses 62 = .ok (.ldc 90, 2) := by decide +kernel
theorem d_Rd_takeClauses_64 : decode b_Rd_takeClauses 64 = .ok (.invokevirtual 83, 3) := by decide +kernel
theorem d_Rd_takeClauses_67 : decode b_Rd_takeClauses 67 = .ok (.ifCond .eq 40, 3) := by decide +kernel
theorem d_Rd_takeClauses_70 : decode b_Rd_takeClauses 70 = .ok (.aload_n 0, 1) := by decide +kernel
theorem d_Rd_takeClauses_71 : decode b_Rd_takeClauses 71 = .ok (.invokevirtual 68, 3) := by decide +kernel
theorem d_Rd_takeClauses_74 : decode b_Rd_takeClauses 74 = .ok (.ifCond .eq 13, 3) := by decide +kernel
theorem d_Rd_takeClauses_77 : decode b_Rd_takeClauses 77 = .ok (.aload_n 0, 1) := by decide +kernel
theorem d_Rd_takeClauses_78 : decode b_Rd_takeClauses 78 = .ok (.iconst 1, 1) := by decide +kernel
theorem d_Rd_takeClauses_79 : decode b_Rd_takeClauses 79 = .ok (.bipush 99, 2) := by decide +kernel
theorem d_Rd_takeClauses_81 : decode b_Rd_takeClauses 81 = .ok (.invokevirtual 71, 3) := by decide +kernel
theorem d_Rd_takeClauses_84 : decode b_Rd_takeClauses 84 = .ok (.ifCond .ne 5, 3) := by decide +kernel
theorem d_Rd_takeClauses_87 : decode b_Rd_takeClauses 87 = .ok (.iconst 0, 1) := by decide +kernel
theorem d_Rd_takeClauses_88 : decode b_Rd_takeClauses 88 = .ok (.ireturn, 1) := by decide +kernel
theorem d_Rd_takeClauses_89 : decode b_Rd_takeClauses 89 = .ok (.aload_n 0, 1) := by decide +kernel
theorem d_Rd_takeClauses_90 : decode b_Rd_takeClauses 90 = .ok (.aload_n 0, 1) := by decide +kernel
theorem d_Rd_takeClauses_91 : decode b_Rd_takeClauses 91 = .ok (.getfield 22, 3) := by decide +kernel
theorem d_Rd_takeClauses_94 : decode b_Rd_takeClauses 94 = .ok (.putfield 34, 3) := by decide +kernel
theorem d_Rd_takeClauses_97 : decode b_Rd_takeClauses 97 = .ok (.aload_n 0, 1) := by decide +kernel
theorem d_Rd_takeClauses_98 : decode b_Rd_takeClauses 98 = .ok (.aload_n 0, 1) := by decide +kernel
theorem d_Rd_takeClauses_99 : decode b_Rd_takeClauses 99 = .ok (.ldc 91, 2) := by decide +kernel
theorem d_Rd_takeClauses_101 : decode b_Rd_takeClauses 101 = .ok (.invokevirtual 83, 3) := by decide +kernel
theorem d_Rd_takeClauses_104 : decode b_Rd_takeClauses 104 = .ok (.putfield 37, 3) := by decide +kernel
theorem d_Rd_takeClauses_107 : decode b_Rd_takeClauses 107 = .ok (.iconst 1, 1) := by decide +kernel
theorem d_Rd_takeClauses_108 : decode b_Rd_takeClauses 108 = .ok (.ireturn, 1) := by decide +kernel
theorem d_Rd_takeEnd_0 : decode b_Rd_takeEnd 0 = .ok (.aload_n 0, 1) := by decide +kernel
theorem d_Rd_takeEnd_1 : decode b_Rd_takeEnd 1 = .ok (.getfield 19, 3) := by decide +kernel
theorem d_Rd_takeEnd_4 : decode b_Rd_takeEnd 4 = .ok (.aload_n 0, 1) := by decide +kernel
theorem d_Rd_takeEnd_5 : decode b_Rd_takeEnd 5 = .ok (.getfield 15, 3) := by decide +kernel
theorem d_Rd_takeEnd_8 : decode b_Rd_takeEnd 8 = .ok (.if_icmp .ne 5, 3) := by decide +kernel
theorem d_Rd_takeEnd_11 : decode b_Rd_takeEnd 11 = .ok (.iconst 1, 1) := by decide +kernel
theorem d_Rd_takeEnd_12 : decode b_Rd_takeEnd 12 = .ok (.ireturn, 1) := by decide +kernel
theorem d_Rd_takeEnd_13 : decode b_Rd_takeEnd 13 = .ok (.aload_n 0, 1) := by decide +kernel
theorem d_Rd_takeEnd_14 : decode b_Rd_takeEnd 14 = .ok (.invokevirtual 68, 3) := by decide +kernel
theorem d_Rd_takeEnd_17 : decode b_Rd_takeEnd 17 = .ok (.pop, 1) := by decide +kernel
theorem d_Rd_takeEnd_18 : decode b_Rd_takeEnd 18 = .ok (.iconst 0, 1) := by decide +kernel
theorem d_Rd_takeEnd_19 : decode b_Rd_takeEnd 19 = .ok (.ireturn, 1) := by decide +kernel
theorem d_Rd_takeMonths_0 : decode b_Rd_takeMonths 0 = .ok (.iconst 0, 1) := by decide +kernel
theorem d_Rd_takeMonths_1 : decode b_Rd_takeMonths 1 = .ok (.istore_n 1, 1) := by decide +kernel
theorem d_Rd_takeMonths_2 : decode b_Rd_takeMonths 2 = .ok (.iconst 0, 1) := by decide +kernel
theorem d_Rd_takeMonths_3 : decode b_Rd_takeMonths 3 = .ok (.istore_n 2, 1) := by decide +kernel
theorem d_Rd_takeMonths_4 : decode b_Rd_takeMonths 4 = .ok (.iload_n 2, 1) := by decide +kernel
theorem d_Rd_takeMonths_5 : decode b_Rd_takeMonths 5 = .ok (.bipush 12, 2) := by decide +kernel
theorem d_Rd_takeMonths_7 : decode b_Rd_takeMonths 7 = .ok (.if_icmp .gt 64, 3) := by decide +kernel
theorem d_Rd_takeMonths_10 : decode b_Rd_takeMonths 10 = .ok (.aload_n 0, 1) := by decide +kernel
theorem d_Rd_takeMonths_11 : decode b_Rd_takeMonths 11 = .ok (.iload_n 1, 1) := by decide +kernel
theorem d_Rd_takeMonths_12 : decode b_Rd_takeMonths 12 = .ok (.bipush 11, 2) := by decide +kernel
theorem d_Rd_takeMonths_14 : decode b_Rd_takeMonths 14 = .ok (.invokevirtual 71, 3) := by decide +kernel
theorem d_Rd_takeMonths_17 : decode b_Rd_takeMonths 17 = .ok (.ifCond .ne 5, 3) := by decide +kernel
theorem d_Rd_takeMonths_20 : decode b_Rd_takeMonths 20 = .ok (.iconst 0, 1) := by decide +kernel
theorem d_Rd_takeMonths_21 : decode b_Rd_takeMonths 21 = .ok (.ireturn, 1) := by decide +kernel
theorem d_Rd_takeMonths_22 : decode b_Rd_takeMonths 22 = .ok (.aload_n 0, 1) := by decide +kernel
theorem d_Rd_takeMonths_23 : decode b_Rd_takeMonths 23 = .ok (.dup, 1) := by decide +kernel
theorem d_Rd_takeMonths_24 : decode b_Rd_takeMonths 24 = .ok (.getfield 28, 3) := by decide +kernel
theorem d_Rd_takeMonths_27 : decode b_Rd_takeMonths 27 = .ok (.iconst 1, 1) := by decide +kernel
theorem d_Rd_takeMonths_28 : decode b_Rd_takeMonths 28 = .ok (.aload_n 0, 1) := by decide +kernel
theorem d_Rd_takeMonths_29 : decode b_Rd_takeMonths 29 = .ok (.getfield 22, 3) := by decide +kernel
theorem d_Rd_takeMonths_32 : decode b_Rd_takeMonths 32 = .ok (.ishl, 1) := by decide +kernel
theorem d_Rd_takeMonths_33 : decode b_Rd_takeMonths 33 = .ok (.ior, 1) := by decide +kernel
theorem d_Rd_takeMonths_34 : decode b_Rd_takeMonths 34 = .ok (.putfield 28, 3) := by decide +kernel
theorem d_Rd_takeMonths_37 : decode b_Rd_takeMonths 37 = .ok (.aload_n 0, 1) := by decide +kernel
theorem d_Rd_takeMonths_38 : decode b_Rd_takeMonths 38 = .ok (.getfield 22, 3) := by decide +kernel
theorem d_Rd_takeMonths_41 : decode b_Rd_takeMonths 41 = .ok (.iconst 1, 1) := by decide +kernel
theorem d_Rd_takeMonths_42 : decode b_Rd_takeMonths 42 = .ok (.iadd, 1) := by decide +kernel
theorem d_Rd_takeMonths_43 : decode b_Rd_takeMonths 43 = .ok (.istore_n 1, 1) := by decide +kernel
theorem d_Rd_takeMonths_44 : decode b_Rd_takeMonths 44 = .ok (.aload_n 0, 1) := by decide +kernel
theorem d_Rd_takeMonths_45 : decode b_Rd_takeMonths 45 = .ok (.invokevirtual 93, 3) := by decide +kernel
theorem d_Rd_takeMonths_48 : decode b_Rd_takeMonths 48 = .ok (.bipush 44, 2) := by decide +kernel
theorem d_Rd_takeMonths_50 : decode b_Rd_takeMonths 50 = .ok (.if_icmp .eq 5, 3) := by decide +kernel
theorem d_Rd_takeMonths_53 : decode b_Rd_takeMonths 53 = .ok (.iconst 1, 1) := by decide +kernel
theorem d_Rd_takeMonths_54 : decode b_Rd_takeMonths 54 = .ok (.ireturn, 1) := by decide +kernel
theorem d_Rd_takeMonths_55 : decode b_Rd_takeMonths 55 = .ok (.aload_n 0, 1) := by decide +kernel
theorem d_Rd_takeMonths_56 : decode b_Rd_takeMonths 56 = .ok (.dup, 1) := by decide +kernel
theorem d_Rd_takeMonths_57 : decode b_Rd_takeMonths 57 = .ok (.getfield 19, 3) := by decide +kernel
theorem d_Rd_takeMonths_60 : decode b_Rd_takeMonths 60 = .ok (.iconst 1, 1) := by decide +kernel
theorem d_Rd_takeMonths_61 : decode b_Rd_takeMonths 61 = .ok (.iadd, 1) := by decide +kernel
theorem d_Rd_takeMonths_62 : decode b_Rd_takeMonths 62 = .ok (.putfield 19, 3) := by decide +kernel
theorem d_Rd_takeMonths_65 : decode b_Rd_takeMonths 65 = .ok (.iinc 2 1, 3) := by decide +kernel
theorem d_Rd_takeMonths_68 : decode b_Rd_takeMonths 68 = .ok (.goto (-64), 3) := by decide +kernel
theorem d_Rd_takeMonths_71 : decode b_Rd_takeMonths 71 = .ok (.iconst 0, 1) := by decide +kernel
theorem d_Rd_takeMonths_72 : decode b_Rd_takeMonths 72 = .ok (.ireturn, 1) := by decide +kernel
theorem d_Rd_takeNextWord_0 : decode b_Rd_takeNextWord 0 = .ok (.aload_n 0, 1) := by decide +kernel
theorem d_Rd_takeNextWord_1 : decode b_Rd_takeNextWord 1 = .ok (.getfield 19, 3) := by decide +kernel
theorem d_Rd_takeNextWord_4 : decode b_Rd_takeNextWord 4 = .ok (.istore_n 2, 1) := by decide +kernel
theorem d_Rd_takeNextWord_5 : decode b_Rd_takeNextWord 5 = .ok (.aload_n 0, 1) := by decide +kernel
theorem d_Rd_takeNextWord_6 : decode b_Rd_takeNextWord 6 = .ok (.invokevirtual 68, 3) := by decide +kernel
theorem d_Rd_takeNextWord_9 : decode b_Rd_takeNextWord 9 = .ok (.ifCond .eq 13, 3) := by decide +kernel
theorem d_Rd_takeNextWord_12 : decode b_Rd_takeNextWord 12 = .ok (.aload_n 0, 1) := by decide +kernel
theorem d_Rd_takeNextWord_13 : decode b_Rd_takeNextWord 13 = .ok (.aload_n 1, 1) := by decide +kernel
theorem d_Rd_takeNextWord_14 : decode b_Rd_takeNextWord 14 = .ok (.invokevirtual 64, 3) := by decide +kernel
theorem d_Rd_takeNextWord_17 : decode b_Rd_takeNextWord 17 = .ok (.ifCond .eq 5, 3) := by decide +kernel
theorem d_Rd_takeNextWord_20 : decode b_Rd_takeNextWord 20 = .ok (.iconst 1, 1) := by decide +kernel
theorem d_Rd_takeNextWord_21 : decode b_Rd_takeNextWord 21 = .ok (.ireturn, 1) := by decide +kernel
theorem d_Rd_takeNextWord_22 : decode b_Rd_takeNextWord 22 = .ok (.aload_n 0, 1) := by decide +kernel
theorem d_Rd_takeNextWord_23 : decode b_Rd_takeNextWord 23 = .ok (.iload_n 2, 1) := by decide +kernel
theorem d_Rd_takeNextWord_24 : decode b_Rd_takeNextWord 24 = .ok (.putfield 19, 3) := by decide +kernel
theorem d_Rd_takeNextWord_27 : decode b_Rd_takeNextWord 27 = .ok (.iconst 0, 1) := by decide +kernel
theorem d_Rd_takeNextWord_28 : decode b_Rd_takeNextWord 28 = .ok (.ireturn, 1) := by decide +kernel
theorem d_Rd_takeSpace_0 : decode b_Rd_takeSpace 0 = .ok (.aload_n 0, 1) := by decide +kernel
theorem d_Rd_takeSpace_1 : decode b_Rd_takeSpace 1 = .ok (.invokevirtual 93, 3) := by decide +kernel
theorem d_Rd_takeSpace_4 : decode b_Rd_takeSpace 4 = .ok (.bipush 32, 2) := by decide +kernel
theorem d_Rd_takeSpace_6 : decode b_Rd_takeSpace 6 = .ok (.if_icmp .eq 5, 3) := by decide +kernel
theorem d_Rd_takeSpace_9 : decode b_Rd_takeSpace 9 = .ok (.iconst 0, 1) := by decide +kernel
theorem d_Rd_takeSpace_10 : decode b_Rd_takeSpace 10 = .ok (.ireturn, 1) := by decide +kernel
theorem d_Rd_takeSpace_11 : decode b_Rd_takeSpace 11 = .ok (.aload_n 0, 1) := by decide +kernel
theorem d_Rd_takeSpace_12 : decode b_Rd_takeSpace 12 = .ok (.dup, 1) := by decide +kernel
theorem d_Rd_takeSpace_13 : decode b_Rd_takeSpace 13 = .ok (.getfield 19, 3) := by decide +kernel
theorem d_Rd_takeSpace_16 : decode b_Rd_takeSpace 16 = .ok (.iconst 1, 1) := by decide +kernel
theorem d_Rd_takeSpace_17 : decode b_Rd_takeSpace 17 = .ok (.iadd, 1) := by decide +kernel
theorem d_Rd_takeSpace_18 : decode b_Rd_takeSpace 18 = .ok (.putfield 19, 3) := by decide +kernel
theorem d_Rd_takeSpace_21 : decode b_Rd_takeSpace 21 = .ok (.iconst 1, 1) := by decide +kernel
theorem d_Rd_takeSpace_22 : decode b_Rd_takeSpace 22 = .ok (.ireturn, 1) := by decide +kernel
theorem d_Rd_takeWord_0 : decode b_Rd_takeWord 0 = .ok (.aload_n 0, 1) := by decide +kernel
theorem d_Rd_takeWord_1 : decode b_Rd_takeWord 1 = .ok (.getfield 19, 3) := by decide +kernel
theorem d_Rd_takeWord_4 : decode b_Rd_takeWord 4 = .ok (.aload_n 1, 1) := by decide +kernel
theorem d_Rd_takeWord_5 : decode b_Rd_takeWord 5 = .ok (.invokevirtual 97, 3) := by decide +kernel
theorem d_Rd_takeWord_8 : decode b_Rd_takeWord 8 = .ok (.iadd, 1) := by decide +kernel
theorem d_Rd_takeWord_9 : decode b_Rd_takeWord 9 = .ok (.istore_n 2, 1) := by decide +kernel
theorem d_Rd_takeWord_10 : decode b_Rd_takeWord 10 = .ok (.iload_n 2, 1) := by decide +kernel
theorem d_Rd_takeWord_11 : decode b_Rd_takeWord 11 = .ok (.aload_n 0, 1) := by decide +kernel
theorem d_Rd_takeWord_12 : decode b_Rd_takeWord 12 = .ok (.getfield 15, 3) := by decide +kernel
theorem d_Rd_takeWord_15 : decode b_Rd_takeWord 15 = .ok (.if_icmp .gt 14, 3) := by decide +kernel
theorem d_Rd_takeWord_18 : decode b_Rd_takeWord 18 = .ok (.aload_n 0, 1) := by decide +kernel
theorem d_Rd_takeWord_19 : decode b_Rd_takeWord 19 = .ok (.iload_n 2, 1) := by decide +kernel
theorem d_Rd_takeWord_20 : decode b_Rd_takeWord 20 = .ok (.invokevirtual 101, 3) := by decide +kernel
theorem d_Rd_takeWord_23 : decode b_Rd_takeWord 23 = .ok (.invokestatic 105, 3) := by decide +kernel
theorem d_Rd_takeWord_26 : decode b_Rd_takeWord 26 = .ok (.ifCond .eq 5, 3) := by decide +kernel
theorem d_Rd_takeWord_29 : decode b_Rd_takeWord 29 = .ok (.iconst 0, 1) := by decide +kernel
theorem d_Rd_takeWord_30 : decode b_Rd_takeWord 30 = .ok (.ireturn, 1) := by decide +kernel
theorem d_Rd_takeWord_31 : decode b_Rd_takeWord 31 = .ok (.iconst 0, 1) := by decide +kernel
theorem d_Rd_takeWord_32 : decode b_Rd_takeWord 32 = .ok (.istore_n 3, 1) := by decide +kernel
theorem d_Rd_takeWord_33 : decode b_Rd_takeWord 33 = .ok (.iload_n 3, 1) := by decide +kernel
theorem d_Rd_takeWord_34 : decode b_Rd_takeWord 34 = .ok (.aload_n 1, 1) := by decide +kernel
theorem d_Rd_takeWord_35 : decode b_Rd_takeWord 35 = .ok (.invokevirtual 97, 3) := by decide +kernel
theorem d_Rd_takeWord_38 : decode b_Rd_takeWord 38 = .ok (.if_icmp .ge 29, 3) := by decide +kernel
theorem d_Rd_takeWord_41 : decode b_Rd_takeWord 41 = .ok (.aload_n 0, 1) := by decide +kernel
theorem d_Rd_takeWord_42 : decode b_Rd_takeWord 42 = .ok (.aload_n 0, 1) := by decide +kernel
theorem d_Rd_takeWord_43 : decode b_Rd_takeWord 43 = .ok (.getfield 19, 3) := by decide +kernel
theorem d_Rd_takeWord_46 : decode b_Rd_takeWord 46 = .ok (.iload_n 3, 1) := by decide +kernel
theorem d_Rd_takeWord_47 : decode b_Rd_takeWord 47 = .ok (.iadd, 1) := by decide +kernel
theorem d_Rd_takeWord_48 : decode b_Rd_takeWord 48 = .ok (.invokevirtual 101, 3) := by decide +kernel
theorem d_Rd_takeWord_51 : decode b_Rd_takeWord 51 = .ok (.aload_n 1, 1) := by decide +kernel
theorem d_Rd_takeWord_52 : decode b_Rd_takeWord 52 = .ok (.iload_n 3, 1) := by decide +kernel
theorem d_Rd_takeWord_53 : decode b_Rd_takeWord 53 = .ok (.invokevirtual 109, 3) := by decide +kernel
theorem d_Rd_takeWord_56 : decode b_Rd_takeWord 56 = .ok (.if_icmp .eq 5, 3) := by decide +kernel
theorem d_Rd_takeWord_59 : decode b_Rd_takeWord 59 = .ok (.iconst 0, 1) := by decide +kernel
theorem d_Rd_takeWord_60 : decode b_Rd_takeWord 60 = .ok (.ireturn, 1) := by decide +kernel
theorem d_Rd_takeWord_61 : decode b_Rd_takeWord 61 = .ok (.iinc 3 1, 3) := by decide +kernel
theorem d_Rd_takeWord_64 : decode b_Rd_takeWord 64 = .ok (.goto (-31), 3) := by decide +kernel
theorem d_Rd_takeWord_67 : decode b_Rd_takeWord 67 = .ok (.aload_n 0, 1) := by decide +kernel
theorem d_Rd_takeWord_68 : decode b_Rd_takeWord 68 = .ok (.iload_n 2, 1) := by decide +kernel
theorem d_Rd_takeWord_69 : decode b_Rd_takeWord 69 = .ok (.putfield 19, 3) := by decide +kernel
theorem d_Rd_takeWord_72 : decode b_Rd_takeWord 72 = .ok (.iconst 1, 1) := by decide +kernel
theorem d_Rd_takeWord_73 : decode b_Rd_takeWord 73 = .ok (.ireturn, 1) := by decide +kernel
theorem d_Rd_takeNumber_0 : decode b_Rd_takeNumber 0 = .ok (.aload_n 0, 1) := by decide +kernel
theorem d_Rd_takeNumber_1 : decode b_Rd_takeNumber 1 = .ok (.getfield 19, 3) := by decide +kernel
theorem d_Rd_takeNumber_4 : decode b_Rd_takeNumber 4 = .ok (.istore_n 3, 1) := by decide +kernel
theorem d_Rd_takeNumber_5 : decode b_Rd_takeNumber 5 = .ok (.iconst 0, 1) := by decide +kernel
theorem d_Rd_takeNumber_6 : decode b_Rd_takeNumber 6 = .ok (.istore 4, 2) := by decide +kernel
theorem d_Rd_takeNumber_8 : decode b_Rd_takeNumber 8 = .ok (.iload_n 3, 1) := by decide +kernel
theorem d_Rd_takeNumber_9 : decode b_Rd_takeNumber 9 = .ok (.aload_n 0, 1) := by decide +kernel
theorem d_Rd_takeNumber_10 : decode b_Rd_takeNumber 10 = .ok (.getfield 15, 3) := by decide +kernel
theorem d_Rd_takeNumber_13 : decode b_Rd_takeNumber 13 = .ok (.if_icmp .ge 41, 3) := by decide +kernel
theorem d_Rd_takeNumber_16 : decode b_Rd_takeNumber 16 = .ok (.aload_n 0, 1) := by decide +kernel
theorem d_Rd_takeNumber_17 : decode b_Rd_takeNumber 17 = .ok (.iload_n 3, 1) := by decide +kernel
theorem d_Rd_takeNumber_18 : decode b_Rd_takeNumber 18 = .ok (.invokevirtual 101, 3) := by decide +kernel
theorem d_Rd_takeNumber_21 : decode b_Rd_takeNumber 21 = .ok (.invokestatic 113, 3) := by decide +kernel
theorem d_Rd_takeNumber_24 : decode b_Rd_takeNumber 24 = .ok (.ifCond .eq 30, 3) := by decide +kernel
theorem d_Rd_takeNumber_27 : decode b_Rd_takeNumber 27 = .ok (.iload 4, 2) := by decide +kernel
theorem d_Rd_takeNumber_29 : decode b_Rd_takeNumber 29 = .ok (.bipush 10, 2) := by decide +kernel
theorem d_Rd_takeNumber_31 : decode b_Rd_takeNumber 31 = .ok (.imul, 1) := by decide +kernel
theorem d_Rd_takeNumber_32 : decode b_Rd_takeNumber 32 = .ok (.aload_n 0, 1) := by decide +kernel
theorem d_Rd_takeNumber_33 : decode b_Rd_takeNumber 33 = .ok (.iload_n 3, 1) := by decide +kernel
theorem d_Rd_takeNumber_34 : decode b_Rd_takeNumber 34 = .ok (.invokevirtual 101, 3) := by decide +kernel
theorem d_Rd_takeNumber_37 : decode b_Rd_takeNumber 37 = .ok (.iadd, 1) := by decide +kernel
theorem d_Rd_takeNumber_38 : decode b_Rd_takeNumber 38 = .ok (.bipush 48, 2) := by decide +kernel
theorem d_Rd_takeNumber_40 : decode b_Rd_takeNumber 40 = .ok (.isub, 1) := by decide +kernel
theorem d_Rd_takeNumber_41 : decode b_Rd_takeNumber 41 = .ok (.bipush 100, 2) := by decide +kernel
theorem d_Rd_takeNumber_43 : decode b_Rd_takeNumber 43 = .ok (.invokestatic 116, 3) := by decide +kernel
theorem d_Rd_takeNumber_46 : decode b_Rd_takeNumber 46 = .ok (.istore 4, 2) := by decide +kernel
theorem d_Rd_takeNumber_48 : decode b_Rd_takeNumber 48 = .ok (.iinc 3 1, 3) := by decide +kernel
theorem d_Rd_takeNumber_51 : decode b_Rd_takeNumber 51 = .ok (.goto (-43), 3) := by decide +kernel
theorem d_Rd_takeNumber_54 : decode b_Rd_takeNumber 54 = .ok (.iload_n 3, 1) := by decide +kernel
theorem d_Rd_takeNumber_55 : decode b_Rd_takeNumber 55 = .ok (.aload_n 0, 1) := by decide +kernel
theorem d_Rd_takeNumber_56 : decode b_Rd_takeNumber 56 = .ok (.getfield 19, 3) := by decide +kernel
theorem d_Rd_takeNumber_59 : decode b_Rd_takeNumber 59 = .ok (.if_icmp .ne 7, 3) := by decide +kernel
theorem d_Rd_takeNumber_62 : decode b_Rd_takeNumber 62 = .ok (.iconst 1, 1) := by decide +kernel
theorem d_Rd_takeNumber_63 : decode b_Rd_takeNumber 63 = .ok (.goto 4, 3) := by decide +kernel
theorem d_Rd_takeNumber_66 : decode b_Rd_takeNumber 66 = .ok (.iconst 0, 1) := by decide +kernel
theorem d_Rd_takeNumber_67 : decode b_Rd_takeNumber 67 = .ok (.istore 5, 2) := by decide +kernel
theorem d_Rd_takeNumber_69 : decode b_Rd_takeNumber 69 = .ok (.aload_n 0, 1) := by decide +kernel
theorem d_Rd_takeNumber_70 : decode b_Rd_takeNumber 70 = .ok (.invokevirtual 93, 3) := by decide +kernel
theorem d_Rd_takeNumber_73 : decode b_Rd_takeNumber 73 = .ok (.bipush 48, 2) := by decide +kernel
theorem d_Rd_takeNumber_75 : decode b_Rd_takeNumber 75 = .ok (.if_icmp .ne 17, 3) := by decide +kernel
theorem d_Rd_takeNumber_78 : decode b_Rd_takeNumber 78 = .ok (.iload_n 3, 1) := by decide +kernel
theorem d_Rd_takeNumber_79 : decode b_Rd_takeNumber 79 = .ok (.aload_n 0, 1) := by decide +kernel
theorem d_Rd_takeNumber_80 : decode b_Rd_takeNumber 80 = .ok (.getfield 19, 3) := by decide +kernel
theorem d_Rd_takeNumber_83 : decode b_Rd_takeNumber 83 = .ok (.isub, 1) := by decide +kernel
theorem d_Rd_takeNumber_84 : decode b_Rd_takeNumber 84 = .ok (.iconst 1, 1) := by decide +kernel
theorem d_Rd_takeNumber_85 : decode b_Rd_takeNumber 85 = .ok (.if_icmp .le 7, 3) := by decide +kernel
theorem d_Rd_takeNumber_88 : decode b_Rd_takeNumber 88 = .ok (.iconst 1, 1) := by decide +kernel
theorem d_Rd_takeNumber_89 : decode b_Rd_takeNumber 89 = .ok (.goto 4, 3) := by decide +kernel
theorem d_Rd_takeNumber_92 : decode b_Rd_takeNumber 92 = .ok (.iconst 0, 1) := by decide +kernel
theorem d_Rd_takeNumber_93 : decode b_Rd_takeNumber 93 = .ok (.istore 6, 2) := by decide +kernel
theorem d_Rd_takeNumber_95 : decode b_Rd_takeNumber 95 = .ok (.iload 5, 2) := by decide +kernel
theorem d_Rd_takeNumber_97 : decode b_Rd_takeNumber 97 = .ok (.ifCond .ne 20, 3) := by decide +kernel
theorem d_Rd_takeNumber_100 : decode b_Rd_takeNumber 100 = .ok (.iload 6, 2) := by decide +kernel
theorem d_Rd_takeNumber_102 : decode b_Rd_takeNumber 102 = .ok (.ifCond .ne 15, 3) := by decide +kernel
theorem d_Rd_takeNumber_105 : decode b_Rd_takeNumber 105 = .ok (.iload 4, 2) := by decide +kernel
theorem d_Rd_takeNumber_107 : decode b_Rd_takeNumber 107 = .ok (.iload_n 1, 1) := by decide +kernel
theorem d_Rd_takeNumber_108 : decode b_Rd_takeNumber 108 = .ok (.if_icmp .lt 9, 3) := by decide +kernel
theorem d_Rd_takeNumber_111 : decode b_Rd_takeNumber 111 = .ok (.iload 4, 2) := by decide +kernel
theorem d_Rd_takeNumber_113 : decode b_Rd_takeNumber 113 = .ok (.iload_n 2, 1) := by decide +kernel
theorem d_Rd_takeNumber_114 : decode b_Rd_takeNumber 114 = .ok (.if_icmp .le 5, 3) := by decide +kernel
theorem d_Rd_takeNumber_117 : decode b_Rd_takeNumber 117 = .ok (.iconst 0, 1) := by decide +kernel
theorem d_Rd_takeNumber_118 : decode b_Rd_takeNumber 118 = .ok (.ireturn, 1) := by decide +kernel
theorem d_Rd_takeNumber_119 : decode b_Rd_takeNumber 119 = .ok (.aload_n 0, 1) := by decide +kernel
theorem d_Rd_takeNumber_120 : decode b_Rd_takeNumber 120 = .ok (.iload 4, 2) := by decide +kernel
theorem d_Rd_takeNumber_122 : decode b_Rd_takeNumber 122 = .ok (.putfield 22, 3) := by decide +kernel
theorem d_Rd_takeNumber_125 : decode b_Rd_takeNumber 125 = .ok (.aload_n 0, 1) := by decide +kernel
theorem d_Rd_takeNumber_126 : decode b_Rd_takeNumber 126 = .ok (.iload_n 3, 1) := by decide +kernel
theorem d_Rd_takeNumber_127 : decode b_Rd_takeNumber 127 = .ok (.putfield 19, 3) := by decide +kernel
theorem d_Rd_takeNumber_130 : decode b_Rd_takeNumber 130 = .ok (.iconst 1, 1) := by decide +kernel
theorem d_Rd_takeNumber_131 : decode b_Rd_takeNumber 131 = .ok (.ireturn, 1) := by decide +kernel
theorem d_Rd_signHere_0 : decode b_Rd_signHere 0 = .ok (.aload_n 0, 1) := by decide +kernel
theorem d_Rd_signHere_1 : decode b_Rd_signHere 1 = .ok (.aload_n 0, 1) := by decide +kernel
theorem d_Rd_signHere_2 : decode b_Rd_signHere 2 = .ok (.getfield 19, 3) := by decide +kernel
theorem d_Rd_signHere_5 : decode b_Rd_signHere 5 = .ok (.invokevirtual 101, 3) := by decide +kernel
theorem d_Rd_signHere_8 : decode b_Rd_signHere 8 = .ok (.ireturn, 1) := by decide +kernel
theorem d_Rd_signAt_0 : decode b_Rd_signAt 0 = .ok (.iload_n 1, 1) := by decide +kernel
theorem d_Rd_signAt_1 : decode b_Rd_signAt 1 = .ok (.ifCond .lt 26, 3) := by decide +kernel
theorem d_Rd_signAt_4 : decode b_Rd_signAt 4 = .ok (.iload_n 1, 1) := by decide +kernel
theorem d_Rd_signAt_5 : decode b_Rd_signAt 5 = .ok (.aload_n 0, 1) := by decide +kernel
theorem d_Rd_signAt_6 : decode b_Rd_signAt 6 = .ok (.getfield 15, 3) := by decide +kernel
theorem d_Rd_signAt_9 : decode b_Rd_signAt 9 = .ok (.if_icmp .ge 18, 3) := by decide +kernel
theorem d_Rd_signAt_12 : decode b_Rd_signAt 12 = .ok (.iload_n 1, 1) := by decide +kernel
theorem d_Rd_signAt_13 : decode b_Rd_signAt 13 = .ok (.bipush 120, 2) := by decide +kernel
theorem d_Rd_signAt_15 : decode b_Rd_signAt 15 = .ok (.if_icmp .ge 12, 3) := by decide +kernel
theorem d_Rd_signAt_18 : decode b_Rd_signAt 18 = .ok (.aload_n 0, 1) := by decide +kernel
theorem d_Rd_signAt_19 : decode b_Rd_signAt 19 = .ok (.getfield 9, 3) := by decide +kernel
theorem d_Rd_signAt_22 : decode b_Rd_signAt 22 = .ok (.iload_n 1, 1) := by decide +kernel
theorem d_Rd_signAt_23 : decode b_Rd_signAt 23 = .ok (.iaload, 1) := by decide +kernel
theorem d_Rd_signAt_24 : decode b_Rd_signAt 24 = .ok (.goto 4, 3) := by decide +kernel
theorem d_Rd_signAt_27 : decode b_Rd_signAt 27 = .ok (.iconst (-1), 1) := by decide +kernel
theorem d_Rd_signAt_28 : decode b_Rd_signAt 28 = .ok (.ireturn, 1) := by decide +kernel
theorem d_Rd_isDigit_0 : decode b_Rd_isDigit 0 = .ok (.iload_n 0, 1) := by decide +kernel
theorem d_Rd_isDigit_1 : decode b_Rd_isDigit 1 = .ok (.bipush 48, 2) := by decide +kernel
theorem d_Rd_isDigit_3 : decode b_Rd_isDigit 3 = .ok (.if_icmp .lt 13, 3) := by decide +kernel
theorem d_Rd_isDigit_6 : decode b_Rd_isDigit 6 = .ok (.iload_n 0, 1) := by decide +kernel
theorem d_Rd_isDigit_7 : decode b_Rd_isDigit 7 = .ok (.bipush 57, 2) := by decide +kernel
theorem d_Rd_isDigit_9 : decode b_Rd_isDigit 9 = .ok (.if_icmp .gt 7, 3) := by decide +kernel
theorem d_Rd_isDigit_12 : decode b_Rd_isDigit 12 = .ok (.iconst 1, 1) := by decide +kernel
theorem d_Rd_isDigit_13 : decode b_Rd_isDigit 13 = .ok (.goto 4, 3) := by decide +kernel
theorem d_Rd_isDigit_16 : decode b_Rd_isDigit 16 = .ok (.iconst 0, 1) := by decide +kernel
theorem d_Rd_isDigit_17 : decode b_Rd_isDigit 17 = .ok (.ireturn, 1) := by decide +kernel
theorem d_Rd_isLetter_0 : decode b_Rd_isLetter 0 = .ok (.iload_n 0, 1) := by decide +kernel
theorem d_Rd_isLetter_1 : decode b_Rd_isLetter 1 = .ok (.bipush 97, 2) := by decide +kernel
theorem d_Rd_isLetter_3 : decode b_Rd_isLetter 3 = .ok (.if_icmp .lt 9, 3) := by decide +kernel
theorem d_Rd_isLetter_6 : decode b_Rd_isLetter 6 = .ok (.iload_n 0, 1) := by decide +kernel
theorem d_Rd_isLetter_7 : decode b_Rd_isLetter 7 = .ok (.bipush 122, 2) := by decide +kernel
theorem d_Rd_isLetter_9 : decode b_Rd_isLetter 9 = .ok (.if_icmp .le 15, 3) := by decide +kernel
theorem d_Rd_isLetter_12 : decode b_Rd_isLetter 12 = .ok (.iload_n 0, 1) := by decide +kernel
theorem d_Rd_isLetter_13 : decode b_Rd_isLetter 13 = .ok (.bipush 65, 2) := by decide +kernel
theorem d_Rd_isLetter_15 : decode b_Rd_isLetter 15 = .ok (.if_icmp .lt 13, 3) := by decide +kernel
theorem d_Rd_isLetter_18 : decode b_Rd_isLetter 18 = .ok (.iload_n 0, 1) := by decide +kernel
theorem d_Rd_isLetter_19 : decode b_Rd_isLetter 19 = .ok (.bipush 90, 2) := by decide +kernel
theorem d_Rd_isLetter_21 : decode b_Rd_isLetter 21 = .ok (.if_icmp .gt 7, 3) := by decide +kernel
theorem d_Rd_isLetter_24 : decode b_Rd_isLetter 24 = .ok (.iconst 1, 1) := by decide +kernel
theorem d_Rd_isLetter_25 : decode b_Rd_isLetter 25 = .ok (.goto 4, 3) := by decide +kernel
theorem d_Rd_isLetter_28 : decode b_Rd_isLetter 28 = .ok (.iconst 0, 1) := by decide +kernel
theorem d_Rd_isLetter_29 : decode b_Rd_isLetter 29 = .ok (.ireturn, 1) := by decide +kernel
