/-! decode rows of PatternText$IssueList -/
theorem d_Li_init_0 : decode b_Li_init 0 = .ok (.aload_n 0, 1) := by decide +kernel
theorem d_Li_init_1 : decode b_Li_init 1 = .ok (.invokespecial 3, 3) := by decide +kernel
theorem d_Li_init_4 : decode b_Li_init 4 = .ok (.aload_n 0, 1) := by decide +kernel
theorem d_Li_init_5 : decode b_Li_init 5 = .ok (.bipush 100, 2) := by decide +kernel
theorem d_Li_init_7 : decode b_Li_init 7 = .ok (.newarray .int, 2) := by decide +kernel
theorem d_Li_init_9 : decode b_Li_init 9 = .ok (.putfield 9, 3) := by decide +kernel
theorem d_Li_init_12 : decode b_Li_init 12 = .ok (.aload_n 0, 1) := by decide +kernel
theorem d_Li_init_13 : decode b_Li_init 13 = .ok (.bipush 100, 2) := by decide +kernel
theorem d_Li_init_15 : decode b_Li_init 15 = .ok (.newarray .int, 2) := by decide +kernel
theorem d_Li_init_17 : decode b_Li_init 17 = .ok (.putfield 15, 3) := by decide +kernel
theorem d_Li_init_20 : decode b_Li_init 20 = .ok (.aload_n 0, 1) := by decide +kernel
theorem d_Li_init_21 : decode b_Li_init 21 = .ok (.bipush 100, 2) := by decide +kernel
theorem d_Li_init_23 : decode b_Li_init 23 = .ok (.newarray .int, 2) := by decide +kernel
theorem d_Li_init_25 : decode b_Li_init 25 = .ok (.putfield 18, 3) := by decide +kernel
theorem d_Li_init_28 : decode b_Li_init 28 = .ok (.aload_n 0, 1) := by decide +kernel
theorem d_Li_init_29 : decode b_Li_init 29 = .ok (.bipush 100, 2) := by decide +kernel
theorem d_Li_init_31 : decode b_Li_init 31 = .ok (.newarray .int, 2) := by decide +kernel
theorem d_Li_init_33 : decode b_Li_init 33 = .ok (.putfield 21, 3) := by decide +kernel
theorem d_Li_init_36 : decode b_Li_init 36 = .ok (.aload_n 0, 1) := by decide +kernel
theorem d_Li_init_37 : decode b_Li_init 37 = .ok (.bipush 100, 2) := by decide +kernel
theorem d_Li_init_39 : decode b_Li_init 39 = .ok (.newarray .int, 2) := by decide +kernel
theorem d_Li_init_41 : decode b_Li_init 41 = .ok (.putfield 24, 3) := by decide +kernel
theorem d_Li_init_44 : decode b_Li_init 44 = .ok (.aload_n 0, 1) := by decide +kernel
theorem d_Li_init_45 : decode b_Li_init 45 = .ok (.bipush 100, 2) := by decide +kernel
theorem d_Li_init_47 : decode b_Li_init 47 = .ok (.newarray .int, 2) := by decide +kernel
theorem d_Li_init_49 : decode b_Li_init 49 = .ok (.putfield 27, 3) := by decide +kernel
theorem d_Li_init_52 : decode b_Li_init 52 = .ok (.aload_n 0, 1) := by decide +kernel
theorem d_Li_init_53 : decode b_Li_init 53 = .ok (.bipush 100, 2) := by decide +kernel
theorem d_Li_init_55 : decode b_Li_init 55 = .ok (.newarray .int, 2) := by decide +kernel
theorem d_Li_init_57 : decode b_Li_init 57 = .ok (.putfield 30, 3) := by decide +kernel
theorem d_Li_init_60 : decode b_Li_init 60 = .ok (.aload_n 0, 1) := by decide +kernel
theorem d_Li_init_61 : decode b_Li_init 61 = .ok (.bipush 100, 2) := by decide +kernel
theorem d_Li_init_63 : decode b_Li_init 63 = .ok (.newarray .int, 2) := by decide +kernel
theorem d_Li_init_65 : decode b_Li_init 65 = .ok (.putfield 33, 3) := by decide +kernel
theorem d_Li_init_68 : decode b_Li_init 68 = .ok (.aload_n 0, 1) := by decide +kernel
theorem d_Li_init_69 : decode b_Li_init 69 = .ok (.bipush 100, 2) := by decide +kernel
theorem d_Li_init_71 : decode b_Li_init 71 = .ok (.newarray .int, 2) := by decide +kernel
theorem d_Li_init_73 : decode b_Li_init 73 = .ok (.putfield 36, 3) := by decide +kernel
theorem d_Li_init_76 : decode b_Li_init 76 = .ok (.aload_n 0, 1) := by decide +kernel
theorem d_Li_init_77 : decode b_Li_init 77 = .ok (.iconst 0, 1) := by decide +kernel
theorem d_Li_init_78 : decode b_Li_init 78 = .ok (.putfield 39, 3) := by decide +kernel
theorem d_Li_init_81 : decode b_Li_init 81 = .ok (.return_, 1) := by decide +kernel
theorem d_Li_has_0 : decode b_Li_has 0 = .ok (.iload_n 1, 1) := by decide +kernel
theorem d_Li_has_1 : decode b_Li_has 1 = .ok (.ifCond .lt 15, 3) := by decide +kernel
theorem d_Li_has_4 : decode b_Li_has 4 = .ok (.iload_n 1, 1) := by decide +kernel
theorem d_Li_has_5 : decode b_Li_has 5 = .ok (.aload_n 0, 1) := by decide +kernel
theorem d_Li_has_6 : decode b_Li_has 6 = .ok (.getfield 39, 3) := by decide +kernel
theorem d_Li_has_9 : decode b_Li_has 9 = .ok (.if_icmp .ge 7, 3) := by decide +kernel
theorem d_Li_has_12 : decode b_Li_has 12 = .ok (.iconst 1, 1) := by decide +kernel
theorem d_Li_has_13 : decode b_Li_has 13 = .ok (.goto 4, 3) := by decide +kernel
theorem d_Li_has_16 : decode b_Li_has 16 = .ok (.iconst 0, 1) := by decide +kernel
theorem d_Li_has_17 : decode b_Li_has 17 = .ok (.ireturn, 1) := by decide +kernel
theorem d_Li_isOut_0 : decode b_Li_isOut 0 = .ok (.aload_n 0, 1) := by decide +kernel
theorem d_Li_isOut_1 : decode b_Li_isOut 1 = .ok (.iload_n 1, 1) := by decide +kernel
theorem d_Li_isOut_2 : decode b_Li_isOut 2 = .ok (.invokevirtual 43, 3) := by decide +kernel
theorem d_Li_isOut_5 : decode b_Li_isOut 5 = .ok (.ifCond .eq 17, 3) := by decide +kernel
theorem d_Li_isOut_8 : decode b_Li_isOut 8 = .ok (.aload_n 0, 1) := by decide +kernel
theorem d_Li_isOut_9 : decode b_Li_isOut 9 = .ok (.getfield 36, 3) := by decide +kernel
theorem d_Li_isOut_12 : decode b_Li_isOut 12 = .ok (.iload_n 1, 1) := by decide +kernel
theorem d_Li_isOut_13 : decode b_Li_isOut 13 = .ok (.iaload, 1) := by decide +kernel
theorem d_Li_isOut_14 : decode b_Li_isOut 14 = .ok (.iconst (-1), 1) := by decide +kernel
theorem d_Li_isOut_15 : decode b_Li_isOut 15 = .ok (.if_icmp .ne 7, 3) := by decide +kernel
theorem d_Li_isOut_18 : decode b_Li_isOut 18 = .ok (.iconst 1, 1) := by decide +kernel
theorem d_Li_isOut_19 : decode b_Li_isOut 19 = .ok (.goto 4, 3) := by decide +kernel
theorem d_Li_isOut_22 : decode b_Li_isOut 22 = .ok (.iconst 0, 1) := by decide +kernel
theorem d_Li_isOut_23 : decode b_Li_isOut 23 = .ok (.ireturn, 1) := by decide +kernel
theorem d_Li_hasComeFrom_0 : decode b_Li_hasComeFrom 0 = .ok (.iconst 0, 1) := by decide +kernel
theorem d_Li_hasComeFrom_1 : decode b_Li_hasComeFrom 1 = .ok (.iload_n 1, 1) := by decide +kernel
theorem d_Li_hasComeFrom_2 : decode b_Li_hasComeFrom 2 = .ok (.invokestatic 47, 3) := by decide +kernel
theorem d_Li_hasComeFrom_5 : decode b_Li_hasComeFrom 5 = .ok (.istore_n 2, 1) := by decide +kernel
theorem d_Li_hasComeFrom_6 : decode b_Li_hasComeFrom 6 = .ok (.iload_n 2, 1) := by decide +kernel
theorem d_Li_hasComeFrom_7 : decode b_Li_hasComeFrom 7 = .ok (.aload_n 0, 1) := by decide +kernel
theorem d_Li_hasComeFrom_8 : decode b_Li_hasComeFrom 8 = .ok (.getfield 39, 3) := by decide +kernel
theorem d_Li_hasComeFrom_11 : decode b_Li_hasComeFrom 11 = .ok (.if_icmp .ge 19, 3) := by decide +kernel
theorem d_Li_hasComeFrom_14 : decode b_Li_hasComeFrom 14 = .ok (.aload_n 0, 1) := by decide +kernel
theorem d_Li_hasComeFrom_15 : decode b_Li_hasComeFrom 15 = .ok (.iload_n 2, 1) := by decide +kernel
theorem d_Li_hasComeFrom_16 : decode b_Li_hasComeFrom 16 = .ok (.invokevirtual 53, 3) := by decide +kernel
theorem d_Li_hasComeFrom_19 : decode b_Li_hasComeFrom 19 = .ok (.ifCond .ne 5, 3) := by decide +kernel
theorem d_Li_hasComeFrom_22 : decode b_Li_hasComeFrom 22 = .ok (.iconst 1, 1) := by decide +kernel
theorem d_Li_hasComeFrom_23 : decode b_Li_hasComeFrom 23 = .ok (.ireturn, 1) := by decide +kernel
theorem d_Li_hasComeFrom_24 : decode b_Li_hasComeFrom 24 = .ok (.iinc 2 1, 3) := by decide +kernel
theorem d_Li_hasComeFrom_27 : decode b_Li_hasComeFrom 27 = .ok (.goto (-21), 3) := by decide +kernel
theorem d_Li_hasComeFrom_30 : decode b_Li_hasComeFrom 30 = .ok (.iconst 0, 1) := by decide +kernel
theorem d_Li_hasComeFrom_31 : decode b_Li_hasComeFrom 31 = .ok (.ireturn, 1) := by decide +kernel
theorem d_Li_countBefore_0 : decode b_Li_countBefore 0 = .ok (.iconst 0, 1) := by decide +kernel
theorem d_Li_countBefore_1 : decode b_Li_countBefore 1 = .ok (.istore_n 2, 1) := by decide +kernel
theorem d_Li_countBefore_2 : decode b_Li_countBefore 2 = .ok (.iload_n 2, 1) := by decide +kernel
theorem d_Li_countBefore_3 : decode b_Li_countBefore 3 = .ok (.aload_n 0, 1) := by decide +kernel
theorem d_Li_countBefore_4 : decode b_Li_countBefore 4 = .ok (.getfield 39, 3) := by decide +kernel
theorem d_Li_countBefore_7 : decode b_Li_countBefore 7 = .ok (.if_icmp .ge 19, 3) := by decide +kernel
theorem d_Li_countBefore_10 : decode b_Li_countBefore 10 = .ok (.aload_n 0, 1) := by decide +kernel
theorem d_Li_countBefore_11 : decode b_Li_countBefore 11 = .ok (.getfield 9, 3) := by decide +kernel
theorem d_Li_countBefore_14 : decode b_Li_countBefore 14 = .ok (.iload_n 2, 1) := by decide +kernel
theorem d_Li_countBefore_15 : decode b_Li_countBefore 15 = .ok (.iaload, 1) := by decide +kernel
theorem d_Li_countBefore_16 : decode b_Li_countBefore 16 = .ok (.iload_n 1, 1) := by decide +kernel
theorem d_Li_countBefore_17 : decode b_Li_countBefore 17 = .ok (.if_icmp .ge 9, 3) := by decide +kernel
theorem d_Li_countBefore_20 : decode b_Li_countBefore 20 = .ok (.iinc 2 1, 3) := by decide +kernel
theorem d_Li_countBefore_23 : decode b_Li_countBefore 23 = .ok (.goto (-21), 3) := by decide +kernel
theorem d_Li_countBefore_26 : decode b_Li_countBefore 26 = .ok (.iload_n 2, 1) := by decide +kernel
theorem d_Li_countBefore_27 : decode b_Li_countBefore 27 = .ok (.ireturn, 1) := by decide +kernel
theorem d_Li_cutTo_0 : decode b_Li_cutTo 0 = .ok (.aload_n 0, 1) := by decide +kernel
theorem d_Li_cutTo_1 : decode b_Li_cutTo 1 = .ok (.iload_n 1, 1) := by decide +kernel
theorem d_Li_cutTo_2 : decode b_Li_cutTo 2 = .ok (.putfield 39, 3) := by decide +kernel
theorem d_Li_cutTo_5 : decode b_Li_cutTo 5 = .ok (.return_, 1) := by decide +kernel
theorem d_Li_goOn_0 : decode b_Li_goOn 0 = .ok (.iload_n 2, 1) := by decide +kernel
theorem d_Li_goOn_1 : decode b_Li_goOn 1 = .ok (.istore 5, 2) := by decide +kernel
theorem d_Li_goOn_3 : decode b_Li_goOn 3 = .ok (.iconst 1, 1) := by decide +kernel
theorem d_Li_goOn_4 : decode b_Li_goOn 4 = .ok (.istore 6, 2) := by decide +kernel
theorem d_Li_goOn_6 : decode b_Li_goOn 6 = .ok (.iload 6, 2) := by decide +kernel
theorem d_Li_goOn_8 : decode b_Li_goOn 8 = .ok (.iload_n 3, 1) := by decide +kernel
theorem d_Li_goOn_9 : decode b_Li_goOn 9 = .ok (.if_icmp .gt 74, 3) := by decide +kernel
theorem d_Li_goOn_12 : decode b_Li_goOn 12 = .ok (.aload_n 0, 1) := by decide +kernel
theorem d_Li_goOn_13 : decode b_Li_goOn 13 = .ok (.getfield 39, 3) := by decide +kernel
theorem d_Li_goOn_16 : decode b_Li_goOn 16 = .ok (.bipush 100, 2) := by decide +kernel
theorem d_Li_goOn_18 : decode b_Li_goOn 18 = .ok (.if_icmp .ge 65, 3) := by decide +kernel
theorem d_Li_goOn_21 : decode b_Li_goOn 21 = .ok (.aload_n 1, 1) := by decide +kernel
theorem d_Li_goOn_22 : decode b_Li_goOn 22 = .ok (.iload 5, 2) := by decide +kernel
theorem d_Li_goOn_24 : decode b_Li_goOn 24 = .ok (.invokevirtual 56, 3) := by decide +kernel
theorem d_Li_goOn_27 : decode b_Li_goOn 27 = .ok (.istore 7, 2) := by decide +kernel
theorem d_Li_goOn_29 : decode b_Li_goOn 29 = .ok (.iload 7, 2) := by decide +kernel
theorem d_Li_goOn_31 : decode b_Li_goOn 31 = .ok (.iconst (-1), 1) := by decide +kernel
theorem d_Li_goOn_32 : decode b_Li_goOn 32 = .ok (.if_icmp .ne 4, 3) := by decide +kernel
theorem d_Li_goOn_35 : decode b_Li_goOn 35 = .ok (.return_, 1) := by decide +kernel
theorem d_Li_goOn_36 : decode b_Li_goOn 36 = .ok (.aload 4, 2) := by decide +kernel
theorem d_Li_goOn_38 : decode b_Li_goOn 38 = .ok (.iload 7, 2) := by decide +kernel
theorem d_Li_goOn_40 : decode b_Li_goOn 40 = .ok (.invokevirtual 62, 3) := by decide +kernel
theorem d_Li_goOn_43 : decode b_Li_goOn 43 = .ok (.istore 8, 2) := by decide +kernel
theorem d_Li_goOn_45 : decode b_Li_goOn 45 = .ok (.iload 8, 2) := by decide +kernel
theorem d_Li_goOn_47 : decode b_Li_goOn 47 = .ok (.ldc 67, 2) := by decide +kernel
theorem d_Li_goOn_49 : decode b_Li_goOn 49 = .ok (.if_icmp .le 4, 3) := by decide +kernel
theorem d_Li_goOn_52 : decode b_Li_goOn 52 = .ok (.return_, 1) := by decide +kernel
theorem d_Li_goOn_53 : decode b_Li_goOn 53 = .ok (.aload_n 0, 1) := by decide +kernel
theorem d_Li_goOn_54 : decode b_Li_goOn 54 = .ok (.aload_n 1, 1) := by decide +kernel
theorem d_Li_goOn_55 : decode b_Li_goOn 55 = .ok (.iload 7, 2) := by decide +kernel
theorem d_Li_goOn_57 : decode b_Li_goOn 57 = .ok (.iload 8, 2) := by decide +kernel
theorem d_Li_goOn_59 : decode b_Li_goOn 59 = .ok (.aload_n 1, 1) := by decide +kernel
theorem d_Li_goOn_60 : decode b_Li_goOn 60 = .ok (.iload 6, 2) := by decide +kernel
theorem d_Li_goOn_62 : decode b_Li_goOn 62 = .ok (.invokevirtual 68, 3) := by decide +kernel
theorem d_Li_goOn_65 : decode b_Li_goOn 65 = .ok (.invokevirtual 71, 3) := by decide +kernel
theorem d_Li_goOn_68 : decode b_Li_goOn 68 = .ok (.iload 7, 2) := by decide +kernel
theorem d_Li_goOn_70 : decode b_Li_goOn 70 = .ok (.aload_n 1, 1) := by decide +kernel
theorem d_Li_goOn_71 : decode b_Li_goOn 71 = .ok (.getfield 75, 3) := by decide +kernel
theorem d_Li_goOn_74 : decode b_Li_goOn 74 = .ok (.iadd, 1) := by decide +kernel
theorem d_Li_goOn_75 : decode b_Li_goOn 75 = .ok (.istore 5, 2) := by decide +kernel
theorem d_Li_goOn_77 : decode b_Li_goOn 77 = .ok (.iinc 6 1, 3) := by decide +kernel
theorem d_Li_goOn_80 : decode b_Li_goOn 80 = .ok (.goto (-74), 3) := by decide +kernel
theorem d_Li_goOn_83 : decode b_Li_goOn 83 = .ok (.return_, 1) := by decide +kernel
theorem d_Li_put_0 : decode b_Li_put 0 = .ok (.aload_n 0, 1) := by decide +kernel
theorem d_Li_put_1 : decode b_Li_put 1 = .ok (.getfield 39, 3) := by decide +kernel
theorem d_Li_put_4 : decode b_Li_put 4 = .ok (.istore 5, 2) := by decide +kernel
theorem d_Li_put_6 : decode b_Li_put 6 = .ok (.iload 5, 2) := by decide +kernel
theorem d_Li_put_8 : decode b_Li_put 8 = .ok (.ifCond .le 17, 3) := by decide +kernel
theorem d_Li_put_11 : decode b_Li_put 11 = .ok (.aload_n 0, 1) := by decide +kernel
theorem d_Li_put_12 : decode b_Li_put 12 = .ok (.getfield 18, 3) := by decide +kernel
theorem d_Li_put_15 : decode b_Li_put 15 = .ok (.iload 5, 2) := by decide +kernel
theorem d_Li_put_17 : decode b_Li_put 17 = .ok (.iconst 1, 1) := by decide +kernel
theorem d_Li_put_18 : decode b_Li_put 18 = .ok (.isub, 1) := by decide +kernel
theorem d_Li_put_19 : decode b_Li_put 19 = .ok (.iaload, 1) := by decide +kernel
theorem d_Li_put_20 : decode b_Li_put 20 = .ok (.iconst 1, 1) := by decide +kernel
theorem d_Li_put_21 : decode b_Li_put 21 = .ok (.iadd, 1) := by decide +kernel
theorem d_Li_put_22 : decode b_Li_put 22 = .ok (.goto 4, 3) := by decide +kernel
theorem d_Li_put_25 : decode b_Li_put 25 = .ok (.iconst 1, 1) := by decide +kernel
theorem d_Li_put_26 : decode b_Li_put 26 = .ok (.istore 6, 2) := by decide +kernel
theorem d_Li_put_28 : decode b_Li_put 28 = .ok (.aload_n 0, 1) := by decide +kernel
theorem d_Li_put_29 : decode b_Li_put 29 = .ok (.getfield 9, 3) := by decide +kernel
theorem d_Li_put_32 : decode b_Li_put 32 = .ok (.iload 5, 2) := by decide +kernel
theorem d_Li_put_34 : decode b_Li_put 34 = .ok (.iload_n 2, 1) := by decide +kernel
theorem d_Li_put_35 : decode b_Li_put 35 = .ok (.iastore, 1) := by decide +kernel
theorem d_Li_put_36 : decode b_Li_put 36 = .ok (.aload_n 0, 1) := by decide +kernel
theorem d_Li_put_37 : decode b_Li_put 37 = .ok (.getfield 15, 3) := by decide +kernel
theorem d_Li_put_40 : decode b_Li_put 40 = .ok (.iload 5, 2) := by decide +kernel
theorem d_Li_put_42 : decode b_Li_put 42 = .ok (.iload_n 3, 1) := by decide +kernel
theorem d_Li_put_43 : decode b_Li_put 43 = .ok (.iastore, 1) := by decide +kernel
theorem d_Li_put_44 : decode b_Li_put 44 = .ok (.aload_n 0, 1) := by decide +kernel
theorem d_Li_put_45 : decode b_Li_put 45 = .ok (.getfield 18, 3) := by decide +kernel
theorem d_Li_put_48 : decode b_Li_put 48 = .ok (.iload 5, 2) := by decide +kernel
theorem d_Li_put_50 : decode b_Li_put 50 = .ok (.iload 6, 2) := by decide +kernel
theorem d_Li_put_52 : decode b_Li_put 52 = .ok (.iload 4, 2) := by decide +kernel
theorem d_Li_put_54 : decode b_Li_put 54 = .ok (.iadd, 1) := by decide +kernel
theorem d_Li_put_55 : decode b_Li_put 55 = .ok (.iconst 1, 1) := by decide +kernel
theorem d_Li_put_56 : decode b_Li_put 56 = .ok (.isub, 1) := by decide +kernel
theorem d_Li_put_57 : decode b_Li_put 57 = .ok (.iastore, 1) := by decide +kernel
theorem d_Li_put_58 : decode b_Li_put 58 = .ok (.aload_n 0, 1) := by decide +kernel
theorem d_Li_put_59 : decode b_Li_put 59 = .ok (.getfield 21, 3) := by decide +kernel
theorem d_Li_put_62 : decode b_Li_put 62 = .ok (.iload 5, 2) := by decide +kernel
theorem d_Li_put_64 : decode b_Li_put 64 = .ok (.iload 4, 2) := by decide +kernel
theorem d_Li_put_66 : decode b_Li_put 66 = .ok (.iastore, 1) := by decide +kernel
theorem d_Li_put_67 : decode b_Li_put 67 = .ok (.aload_n 0, 1) := by decide +kernel
theorem d_Li_put_68 : decode b_Li_put 68 = .ok (.getfield 24, 3) := by decide +kernel
theorem d_Li_put_71 : decode b_Li_put 71 = .ok (.iload 5, 2) := by decide +kernel
theorem d_Li_put_73 : decode b_Li_put 73 = .ok (.aload_n 1, 1) := by decide +kernel
theorem d_Li_put_74 : decode b_Li_put 74 = .ok (.iload 6, 2) := by decide +kernel
theorem d_Li_put_76 : decode b_Li_put 76 = .ok (.invokevirtual 78, 3) := by decide +kernel
theorem d_Li_put_79 : decode b_Li_put 79 = .ok (.iastore, 1) := by decide +kernel
theorem d_Li_put_80 : decode b_Li_put 80 = .ok (.aload_n 0, 1) := by decide +kernel
theorem d_Li_put_81 : decode b_Li_put 81 = .ok (.getfield 27, 3) := by decide +kernel
theorem d_Li_put_84 : decode b_Li_put 84 = .ok (.iload 5, 2) := by decide +kernel
theorem d_Li_put_86 : decode b_Li_put 86 = .ok (.iload 4, 2) := by decide +kernel
theorem d_Li_put_88 : decode b_Li_put 88 = .ok (.iconst 1, 1) := by decide +kernel
theorem d_Li_put_89 : decode b_Li_put 89 = .ok (.if_icmp .le 14, 3) := by decide +kernel
theorem d_Li_put_92 : decode b_Li_put 92 = .ok (.aload_n 1, 1) := by decide +kernel
theorem d_Li_put_93 : decode b_Li_put 93 = .ok (.iload 6, 2) := by decide +kernel
theorem d_Li_put_95 : decode b_Li_put 95 = .ok (.iconst 1, 1) := by decide +kernel
theorem d_Li_put_96 : decode b_Li_put 96 = .ok (.iadd, 1) := by decide +kernel
theorem d_Li_put_97 : decode b_Li_put 97 = .ok (.invokevirtual 78, 3) := by decide +kernel
theorem d_Li_put_100 : decode b_Li_put 100 = .ok (.goto 4, 3) := by decide +kernel
theorem d_Li_put_103 : decode b_Li_put 103 = .ok (.iconst 0, 1) := by decide +kernel
theorem d_Li_put_104 : decode b_Li_put 104 = .ok (.iastore, 1) := by decide +kernel
theorem d_Li_put_105 : decode b_Li_put 105 = .ok (.aload_n 0, 1) := by decide +kernel
theorem d_Li_put_106 : decode b_Li_put 106 = .ok (.getfield 30, 3) := by decide +kernel
theorem d_Li_put_109 : decode b_Li_put 109 = .ok (.iload 5, 2) := by decide +kernel
theorem d_Li_put_111 : decode b_Li_put 111 = .ok (.aload_n 1, 1) := by decide +kernel
theorem d_Li_put_112 : decode b_Li_put 112 = .ok (.iload 6, 2) := by decide +kernel
theorem d_Li_put_114 : decode b_Li_put 114 = .ok (.invokevirtual 81, 3) := by decide +kernel
theorem d_Li_put_117 : decode b_Li_put 117 = .ok (.iastore, 1) := by decide +kernel
theorem d_Li_put_118 : decode b_Li_put 118 = .ok (.aload_n 0, 1) := by decide +kernel
theorem d_Li_put_119 : decode b_Li_put 119 = .ok (.getfield 33, 3) := by decide +kernel
theorem d_Li_put_122 : decode b_Li_put 122 = .ok (.iload 5, 2) := by decide +kernel
theorem d_Li_put_124 : decode b_Li_put 124 = .ok (.aload_n 1, 1) := by decide +kernel
theorem d_Li_put_125 : decode b_Li_put 125 = .ok (.getfield 84, 3) := by decide +kernel
theorem d_Li_put_128 : decode b_Li_put 128 = .ok (.iastore, 1) := by decide +kernel
theorem d_Li_put_129 : decode b_Li_put 129 = .ok (.aload_n 0, 1) := by decide +kernel
theorem d_Li_put_130 : decode b_Li_put 130 = .ok (.getfield 36, 3) := by decide +kernel
theorem d_Li_put_133 : decode b_Li_put 133 = .ok (.iload 5, 2) := by decide +kernel
theorem d_Li_put_135 : decode b_Li_put 135 = .ok (.iconst (-1), 1) := by decide +kernel
theorem d_Li_put_136 : decode b_Li_put 136 = .ok (.iastore, 1) := by decide +kernel
theorem d_Li_put_137 : decode b_Li_put 137 = .ok (.aload_n 0, 1) := by decide +kernel
theorem d_Li_put_138 : decode b_Li_put 138 = .ok (.dup, 1) := by decide +kernel
theorem d_Li_put_139 : decode b_Li_put 139 = .ok (.getfield 39, 3) := by decide +kernel
theorem d_Li_put_142 : decode b_Li_put 142 = .ok (.iconst 1, 1) := by decide +kernel
theorem d_Li_put_143 : decode b_Li_put 143 = .ok (.iadd, 1) := by decide +kernel
theorem d_Li_put_144 : decode b_Li_put 144 = .ok (.putfield 39, 3) := by decide +kernel
theorem d_Li_put_147 : decode b_Li_put 147 = .ok (.return_, 1) := by decide +kernel
theorem d_Li_isOverdue_0 : decode b_Li_isOverdue 0 = .ok (.aload_n 0, 1) := by decide +kernel
theorem d_Li_isOverdue_1 : decode b_Li_isOverdue 1 = .ok (.iload_n 1, 1) := by decide +kernel
theorem d_Li_isOverdue_2 : decode b_Li_isOverdue 2 = .ok (.invokevirtual 53, 3) := by decide +kernel
theorem d_Li_isOverdue_5 : decode b_Li_isOverdue 5 = .ok (.ifCond .eq 17, 3) := by decide +kernel
theorem d_Li_isOverdue_8 : decode b_Li_isOverdue 8 = .ok (.aload_n 0, 1) := by decide +kernel
theorem d_Li_isOverdue_9 : decode b_Li_isOverdue 9 = .ok (.getfield 15, 3) := by decide +kernel
theorem d_Li_isOverdue_12 : decode b_Li_isOverdue 12 = .ok (.iload_n 1, 1) := by decide +kernel
theorem d_Li_isOverdue_13 : decode b_Li_isOverdue 13 = .ok (.iaload, 1) := by decide +kernel
theorem d_Li_isOverdue_14 : decode b_Li_isOverdue 14 = .ok (.iload_n 2, 1) := by decide +kernel
theorem d_Li_isOverdue_15 : decode b_Li_isOverdue 15 = .ok (.if_icmp .ge 7, 3) := by decide +kernel
theorem d_Li_isOverdue_18 : decode b_Li_isOverdue 18 = .ok (.iconst 1, 1) := by decide +kernel
theorem d_Li_isOverdue_19 : decode b_Li_isOverdue 19 = .ok (.goto 4, 3) := by decide +kernel
theorem d_Li_isOverdue_22 : decode b_Li_isOverdue 22 = .ok (.iconst 0, 1) := by decide +kernel
theorem d_Li_isOverdue_23 : decode b_Li_isOverdue 23 = .ok (.ireturn, 1) := by decide +kernel
theorem d_Li_countOverdue_0 : decode b_Li_countOverdue 0 = .ok (.iconst 0, 1) := by decide +kernel
theorem d_Li_countOverdue_1 : decode b_Li_countOverdue 1 = .ok (.istore_n 2, 1) := by decide +kernel
theorem d_Li_countOverdue_2 : decode b_Li_countOverdue 2 = .ok (.iconst 0, 1) := by decide +kernel
theorem d_Li_countOverdue_3 : decode b_Li_countOverdue 3 = .ok (.istore_n 3, 1) := by decide +kernel
theorem d_Li_countOverdue_4 : decode b_Li_countOverdue 4 = .ok (.iload_n 3, 1) := by decide +kernel
theorem d_Li_countOverdue_5 : decode b_Li_countOverdue 5 = .ok (.aload_n 0, 1) := by decide +kernel
theorem d_Li_countOverdue_6 : decode b_Li_countOverdue 6 = .ok (.getfield 39, 3) := by decide +kernel
theorem d_Li_countOverdue_9 : decode b_Li_countOverdue 9 = .ok (.if_icmp .ge 21, 3) := by decide +kernel
theorem d_Li_countOverdue_12 : decode b_Li_countOverdue 12 = .ok (.aload_n 0, 1) := by decide +kernel
theorem d_Li_countOverdue_13 : decode b_Li_countOverdue 13 = .ok (.iload_n 3, 1) := by decide +kernel
theorem d_Li_countOverdue_14 : decode b_Li_countOverdue 14 = .ok (.iload_n 1, 1) := by decide +kernel
theorem d_Li_countOverdue_15 : decode b_Li_countOverdue 15 = .ok (.invokevirtual 87, 3) := by decide +kernel
theorem d_Li_countOverdue_18 : decode b_Li_countOverdue 18 = .ok (.ifCond .eq 6, 3) := by decide +kernel
theorem d_Li_countOverdue_21 : decode b_Li_countOverdue 21 = .ok (.iinc 2 1, 3) := by decide +kernel
theorem d_Li_countOverdue_24 : decode b_Li_countOverdue 24 = .ok (.iinc 3 1, 3) := by decide +kernel
theorem d_Li_countOverdue_27 : decode b_Li_countOverdue 27 = .ok (.goto (-23), 3) := by decide +kernel
theorem d_Li_countOverdue_30 : decode b_Li_countOverdue 30 = .ok (.iload_n 2, 1) := by decide +kernel
theorem d_Li_countOverdue_31 : decode b_Li_countOverdue 31 = .ok (.ireturn, 1) := by decide +kernel
theorem d_Li_nextOverdue_0 : decode b_Li_nextOverdue 0 = .ok (.iconst (-1), 1) := by decide +kernel
theorem d_Li_nextOverdue_1 : decode b_Li_nextOverdue 1 = .ok (.istore_n 3, 1) := by decide +kernel
theorem d_Li_nextOverdue_2 : decode b_Li_nextOverdue 2 = .ok (.iconst 0, 1) := by decide +kernel
theorem d_Li_nextOverdue_3 : decode b_Li_nextOverdue 3 = .ok (.istore 4, 2) := by decide +kernel
theorem d_Li_nextOverdue_5 : decode b_Li_nextOverdue 5 = .ok (.iload 4, 2) := by decide +kernel
theorem d_Li_nextOverdue_7 : decode b_Li_nextOverdue 7 = .ok (.aload_n 0, 1) := by decide +kernel
theorem d_Li_nextOverdue_8 : decode b_Li_nextOverdue 8 = .ok (.getfield 39, 3) := by decide +kernel
theorem d_Li_nextOverdue_11 : decode b_Li_nextOverdue 11 = .ok (.if_icmp .ge 64, 3) := by decide +kernel
theorem d_Li_nextOverdue_14 : decode b_Li_nextOverdue 14 = .ok (.aload_n 0, 1) := by decide +kernel
theorem d_Li_nextOverdue_15 : decode b_Li_nextOverdue 15 = .ok (.iload 4, 2) := by decide +kernel
theorem d_Li_nextOverdue_17 : decode b_Li_nextOverdue 17 = .ok (.iload_n 1, 1) := by decide +kernel
theorem d_Li_nextOverdue_18 : decode b_Li_nextOverdue 18 = .ok (.invokevirtual 87, 3) := by decide +kernel
theorem d_Li_nextOverdue_21 : decode b_Li_nextOverdue 21 = .ok (.ifCond .eq 22, 3) := by decide +kernel
theorem d_Li_nextOverdue_24 : decode b_Li_nextOverdue 24 = .ok (.iload_n 2, 1) := by decide +kernel
theorem d_Li_nextOverdue_25 : decode b_Li_nextOverdue 25 = .ok (.iconst (-1), 1) := by decide +kernel
theorem d_Li_nextOverdue_26 : decode b_Li_nextOverdue 26 = .ok (.if_icmp .eq 13, 3) := by decide +kernel
theorem d_Li_nextOverdue_29 : decode b_Li_nextOverdue 29 = .ok (.aload_n 0, 1) := by decide +kernel
theorem d_Li_nextOverdue_30 : decode b_Li_nextOverdue 30 = .ok (.iload_n 2, 1) := by decide +kernel
theorem d_Li_nextOverdue_31 : decode b_Li_nextOverdue 31 = .ok (.iload 4, 2) := by decide +kernel
theorem d_Li_nextOverdue_33 : decode b_Li_nextOverdue 33 = .ok (.invokevirtual 91, 3) := by decide +kernel
theorem d_Li_nextOverdue_36 : decode b_Li_nextOverdue 36 = .ok (.ifCond .eq 7, 3) := by decide +kernel
theorem d_Li_nextOverdue_39 : decode b_Li_nextOverdue 39 = .ok (.iconst 1, 1) := by decide +kernel
theorem d_Li_nextOverdue_40 : decode b_Li_nextOverdue 40 = .ok (.goto 4, 3) := by decide +kernel
theorem d_Li_nextOverdue_43 : decode b_Li_nextOverdue 43 = .ok (.iconst 0, 1) := by decide +kernel
theorem d_Li_nextOverdue_44 : decode b_Li_nextOverdue 44 = .ok (.istore 5, 2) := by decide +kernel
theorem d_Li_nextOverdue_46 : decode b_Li_nextOverdue 46 = .ok (.iload 5, 2) := by decide +kernel
theorem d_Li_nextOverdue_48 : decode b_Li_nextOverdue 48 = .ok (.ifCond .eq 21, 3) := by decide +kernel
theorem d_Li_nextOverdue_51 : decode b_Li_nextOverdue 51 = .ok (.iload_n 3, 1) := by decide +kernel
theorem d_Li_nextOverdue_52 : decode b_Li_nextOverdue 52 = .ok (.iconst (-1), 1) := by decide +kernel
theorem d_Li_nextOverdue_53 : decode b_Li_nextOverdue 53 = .ok (.if_icmp .eq 13, 3) := by decide +kernel
theorem d_Li_nextOverdue_56 : decode b_Li_nextOverdue 56 = .ok (.aload_n 0, 1) := by decide +kernel
theorem d_Li_nextOverdue_57 : decode b_Li_nextOverdue 57 = .ok (.iload 4, 2) := by decide +kernel
theorem d_Li_nextOverdue_59 : decode b_Li_nextOverdue 59 = .ok (.iload_n 3, 1) := by decide +kernel
theorem d_Li_nextOverdue_60 : decode b_Li_nextOverdue 60 = .ok (.invokevirtual 91, 3) := by decide +kernel
theorem d_Li_nextOverdue_63 : decode b_Li_nextOverdue 63 = .ok (.ifCond .eq 6, 3) := by decide +kernel
theorem d_Li_nextOverdue_66 : decode b_Li_nextOverdue 66 = .ok (.iload 4, 2) := by decide +kernel
theorem d_Li_nextOverdue_68 : decode b_Li_nextOverdue 68 = .ok (.istore_n 3, 1) := by decide +kernel
theorem d_Li_nextOverdue_69 : decode b_Li_nextOverdue 69 = .ok (.iinc 4 1, 3) := by decide +kernel
theorem d_Li_nextOverdue_72 : decode b_Li_nextOverdue 72 = .ok (.goto (-67), 3) := by decide +kernel
theorem d_Li_nextOverdue_75 : decode b_Li_nextOverdue 75 = .ok (.iload_n 3, 1) := by decide +kernel
theorem d_Li_nextOverdue_76 : decode b_Li_nextOverdue 76 = .ok (.ireturn, 1) := by decide +kernel
theorem d_Li_isClaimedBefore_0 : decode b_Li_isClaimedBefore 0 = .ok (.aload_n 0, 1) := by decide +kernel
theorem d_Li_isClaimedBefore_1 : decode b_Li_isClaimedBefore 1 = .ok (.iload_n 1, 1) := by decide +kernel
theorem d_Li_isClaimedBefore_2 : decode b_Li_isClaimedBefore 2 = .ok (.invokevirtual 43, 3) := by decide +kernel
theorem d_Li_isClaimedBefore_5 : decode b_Li_isClaimedBefore 5 = .ok (.ifCond .eq 11, 3) := by decide +kernel
theorem d_Li_isClaimedBefore_8 : decode b_Li_isClaimedBefore 8 = .ok (.aload_n 0, 1) := by decide +kernel
theorem d_Li_isClaimedBefore_9 : decode b_Li_isClaimedBefore 9 = .ok (.iload_n 2, 1) := by decide +kernel
theorem d_Li_isClaimedBefore_10 : decode b_Li_isClaimedBefore 10 = .ok (.invokevirtual 43, 3) := by decide +kernel
theorem d_Li_isClaimedBefore_13 : decode b_Li_isClaimedBefore 13 = .ok (.ifCond .ne 5, 3) := by decide +kernel
theorem d_Li_isClaimedBefore_16 : decode b_Li_isClaimedBefore 16 = .ok (.iconst 0, 1) := by decide +kernel
theorem d_Li_isClaimedBefore_17 : decode b_Li_isClaimedBefore 17 = .ok (.ireturn, 1) := by decide +kernel
theorem d_Li_isClaimedBefore_18 : decode b_Li_isClaimedBefore 18 = .ok (.aload_n 0, 1) := by decide +kernel
theorem d_Li_isClaimedBefore_19 : decode b_Li_isClaimedBefore 19 = .ok (.getfield 15, 3) := by decide +kernel
theorem d_Li_isClaimedBefore_22 : decode b_Li_isClaimedBefore 22 = .ok (.iload_n 1, 1) := by decide +kernel
theorem d_Li_isClaimedBefore_23 : decode b_Li_isClaimedBefore 23 = .ok (.iaload, 1) := by decide +kernel
theorem d_Li_isClaimedBefore_24 : decode b_Li_isClaimedBefore 24 = .ok (.aload_n 0, 1) := by decide +kernel
theorem d_Li_isClaimedBefore_25 : decode b_Li_isClaimedBefore 25 = .ok (.getfield 15, 3) := by decide +kernel
theorem d_Li_isClaimedBefore_28 : decode b_Li_isClaimedBefore 28 = .ok (.iload_n 2, 1) := by decide +kernel
theorem d_Li_isClaimedBefore_29 : decode b_Li_isClaimedBefore 29 = .ok (.iaload, 1) := by decide +kernel
theorem d_Li_isClaimedBefore_30 : decode b_Li_isClaimedBefore 30 = .ok (.if_icmp .eq 26, 3) := by decide +kernel
theorem d_Li_isClaimedBefore_33 : decode b_Li_isClaimedBefore 33 = .ok (.aload_n 0, 1) := by decide +kernel
theorem d_Li_isClaimedBefore_34 : decode b_Li_isClaimedBefore 34 = .ok (.getfield 15, 3) := by decide +kernel
theorem d_Li_isClaimedBefore_37 : decode b_Li_isClaimedBefore 37 = .ok (.iload_n 1, 1) := by decide +kernel
theorem d_Li_isClaimedBefore_38 : decode b_Li_isClaimedBefore 38 = .ok (.iaload, 1) := by decide +kernel
theorem d_Li_isClaimedBefore_39 : decode b_Li_isClaimedBefore 39 = .ok (.aload_n 0, 1) := by decide +kernel
theorem d_Li_isClaimedBefore_40 : decode b_Li_isClaimedBefore 40 = .ok (.getfield 15, 3) := by decide +kernel
theorem d_Li_isClaimedBefore_43 : decode b_Li_isClaimedBefore 43 = .ok (.iload_n 2, 1) := by decide +kernel
theorem d_Li_isClaimedBefore_44 : decode b_Li_isClaimedBefore 44 = .ok (.iaload, 1) := by decide +kernel
theorem d_Li_isClaimedBefore_45 : decode b_Li_isClaimedBefore 45 = .ok (.if_icmp .ge 7, 3) := by decide +kernel
theorem d_Li_isClaimedBefore_48 : decode b_Li_isClaimedBefore 48 = .ok (.iconst 1, 1) := by decide +kernel
theorem d_Li_isClaimedBefore_49 : decode b_Li_isClaimedBefore 49 = .ok (.goto 17, 3) := by decide +kernel
theorem d_Li_isClaimedBefore_52 : decode b_Li_isClaimedBefore 52 = .ok (.iconst 0, 1) := by decide +kernel
theorem d_Li_isClaimedBefore_53 : decode b_Li_isClaimedBefore 53 = .ok (.goto 13, 3) := by decide +kernel
theorem d_Li_isClaimedBefore_56 : decode b_Li_isClaimedBefore 56 = .ok (.iload_n 1, 1) := by decide +kernel
theorem d_Li_isClaimedBefore_57 : decode b_Li_isClaimedBefore 57 = .ok (.iload_n 2, 1) := by decide +kernel
theorem d_Li_isClaimedBefore_58 : decode b_Li_isClaimedBefore 58 = .ok (.if_icmp .ge 7, 3) := by decide +kernel
theorem d_Li_isClaimedBefore_61 : decode b_Li_isClaimedBefore 61 = .ok (.iconst 1, 1) := by decide +kernel
theorem d_Li_isClaimedBefore_62 : decode b_Li_isClaimedBefore 62 = .ok (.goto 4, 3) := by decide +kernel
theorem d_Li_isClaimedBefore_65 : decode b_Li_isClaimedBefore 65 = .ok (.iconst 0, 1) := by decide +kernel
theorem d_Li_isClaimedBefore_66 : decode b_Li_isClaimedBefore 66 = .ok (.ireturn, 1) := by decide +kernel
