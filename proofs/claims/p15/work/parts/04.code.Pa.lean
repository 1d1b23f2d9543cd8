/-! decode rows of PatternText -/
theorem d_Pa_init_0 : decode b_Pa_init 0 = .ok (.aload_n 0, 1) := by decide +kernel
theorem d_Pa_init_1 : decode b_Pa_init 1 = .ok (.invokespecial 1, 3) := by decide +kernel
theorem d_Pa_init_4 : decode b_Pa_init 4 = .ok (.aload_n 0, 1) := by decide +kernel
theorem d_Pa_init_5 : decode b_Pa_init 5 = .ok (.new 7, 3) := by decide +kernel
theorem d_Pa_init_8 : decode b_Pa_init 8 = .ok (.dup, 1) := by decide +kernel
theorem d_Pa_init_9 : decode b_Pa_init 9 = .ok (.invokespecial 9, 3) := by decide +kernel
theorem d_Pa_init_12 : decode b_Pa_init 12 = .ok (.putfield 10, 3) := by decide +kernel
theorem d_Pa_init_15 : decode b_Pa_init 15 = .ok (.aload_n 0, 1) := by decide +kernel
theorem d_Pa_init_16 : decode b_Pa_init 16 = .ok (.bipush 10, 2) := by decide +kernel
theorem d_Pa_init_18 : decode b_Pa_init 18 = .ok (.anewarray 16, 3) := by decide +kernel
theorem d_Pa_init_21 : decode b_Pa_init 21 = .ok (.putfield 18, 3) := by decide +kernel
theorem d_Pa_init_24 : decode b_Pa_init 24 = .ok (.aload_n 0, 1) := by decide +kernel
theorem d_Pa_init_25 : decode b_Pa_init 25 = .ok (.new 22, 3) := by decide +kernel
theorem d_Pa_init_28 : decode b_Pa_init 28 = .ok (.dup, 1) := by decide +kernel
theorem d_Pa_init_29 : decode b_Pa_init 29 = .ok (.invokespecial 24, 3) := by decide +kernel
theorem d_Pa_init_32 : decode b_Pa_init 32 = .ok (.putfield 25, 3) := by decide +kernel
theorem d_Pa_init_35 : decode b_Pa_init 35 = .ok (.aload_n 0, 1) := by decide +kernel
theorem d_Pa_init_36 : decode b_Pa_init 36 = .ok (.new 29, 3) := by decide +kernel
theorem d_Pa_init_39 : decode b_Pa_init 39 = .ok (.dup, 1) := by decide +kernel
theorem d_Pa_init_40 : decode b_Pa_init 40 = .ok (.invokespecial 31, 3) := by decide +kernel
theorem d_Pa_init_43 : decode b_Pa_init 43 = .ok (.putfield 32, 3) := by decide +kernel
theorem d_Pa_init_46 : decode b_Pa_init 46 = .ok (.aload_n 0, 1) := by decide +kernel
theorem d_Pa_init_47 : decode b_Pa_init 47 = .ok (.iconst 0, 1) := by decide +kernel
theorem d_Pa_init_48 : decode b_Pa_init 48 = .ok (.putfield 36, 3) := by decide +kernel
theorem d_Pa_init_51 : decode b_Pa_init 51 = .ok (.aload_n 0, 1) := by decide +kernel
theorem d_Pa_init_52 : decode b_Pa_init 52 = .ok (.aconst_null, 1) := by decide +kernel
theorem d_Pa_init_53 : decode b_Pa_init 53 = .ok (.putfield 40, 3) := by decide +kernel
theorem d_Pa_init_56 : decode b_Pa_init 56 = .ok (.return_, 1) := by decide +kernel
theorem d_Pa_sign_0 : decode b_Pa_sign 0 = .ok (.aload_n 0, 1) := by decide +kernel
theorem d_Pa_sign_1 : decode b_Pa_sign 1 = .ok (.getfield 10, 3) := by decide +kernel
theorem d_Pa_sign_4 : decode b_Pa_sign 4 = .ok (.iload_n 1, 1) := by decide +kernel
theorem d_Pa_sign_5 : decode b_Pa_sign 5 = .ok (.sipush 255, 3) := by decide +kernel
theorem d_Pa_sign_8 : decode b_Pa_sign 8 = .ok (.iand, 1) := by decide +kernel
theorem d_Pa_sign_9 : decode b_Pa_sign 9 = .ok (.invokevirtual 44, 3) := by decide +kernel
theorem d_Pa_sign_12 : decode b_Pa_sign 12 = .ok (.return_, 1) := by decide +kernel
theorem d_Pa_read_0 : decode b_Pa_read 0 = .ok (.aload_n 0, 1) := by decide +kernel
theorem d_Pa_read_1 : decode b_Pa_read 1 = .ok (.getfield 10, 3) := by decide +kernel
theorem d_Pa_read_4 : decode b_Pa_read 4 = .ok (.invokevirtual 48, 3) := by decide +kernel
theorem d_Pa_read_7 : decode b_Pa_read 7 = .ok (.istore_n 1, 1) := by decide +kernel
theorem d_Pa_read_8 : decode b_Pa_read 8 = .ok (.aload_n 0, 1) := by decide +kernel
theorem d_Pa_read_9 : decode b_Pa_read 9 = .ok (.getfield 10, 3) := by decide +kernel
theorem d_Pa_read_12 : decode b_Pa_read 12 = .ok (.getfield 52, 3) := by decide +kernel
theorem d_Pa_read_15 : decode b_Pa_read 15 = .ok (.istore_n 2, 1) := by decide +kernel
theorem d_Pa_read_16 : decode b_Pa_read 16 = .ok (.iload_n 1, 1) := by decide +kernel
theorem d_Pa_read_17 : decode b_Pa_read 17 = .ok (.ifCond .eq 10, 3) := by decide +kernel
theorem d_Pa_read_20 : decode b_Pa_read 20 = .ok (.aload_n 0, 1) := by decide +kernel
theorem d_Pa_read_21 : decode b_Pa_read 21 = .ok (.invokevirtual 55, 3) := by decide +kernel
theorem d_Pa_read_24 : decode b_Pa_read 24 = .ok (.goto 6, 3) := by decide +kernel
theorem d_Pa_read_27 : decode b_Pa_read 27 = .ok (.iconst (-1), 1) := by decide +kernel
theorem d_Pa_read_28 : decode b_Pa_read 28 = .ok (.iload_n 2, 1) := by decide +kernel
theorem d_Pa_read_29 : decode b_Pa_read 29 = .ok (.isub, 1) := by decide +kernel
theorem d_Pa_read_30 : decode b_Pa_read 30 = .ok (.istore_n 3, 1) := by decide +kernel
theorem d_Pa_read_31 : decode b_Pa_read 31 = .ok (.aload_n 0, 1) := by decide +kernel
theorem d_Pa_read_32 : decode b_Pa_read 32 = .ok (.getfield 10, 3) := by decide +kernel
theorem d_Pa_read_35 : decode b_Pa_read 35 = .ok (.invokevirtual 59, 3) := by decide +kernel
theorem d_Pa_read_38 : decode b_Pa_read 38 = .ok (.iload_n 3, 1) := by decide +kernel
theorem d_Pa_read_39 : decode b_Pa_read 39 = .ok (.ireturn, 1) := by decide +kernel
theorem d_Pa_foretell_0 : decode b_Pa_foretell 0 = .ok (.aload_n 0, 1) := by decide +kernel
theorem d_Pa_foretell_1 : decode b_Pa_foretell 1 = .ok (.iload_n 1, 1) := by decide +kernel
theorem d_Pa_foretell_2 : decode b_Pa_foretell 2 = .ok (.invokevirtual 62, 3) := by decide +kernel
theorem d_Pa_foretell_5 : decode b_Pa_foretell 5 = .ok (.astore 4, 2) := by decide +kernel
theorem d_Pa_foretell_7 : decode b_Pa_foretell 7 = .ok (.aload 4, 2) := by decide +kernel
theorem d_Pa_foretell_9 : decode b_Pa_foretell 9 = .ok (.ifnull 21, 3) := by decide +kernel
theorem d_Pa_foretell_12 : decode b_Pa_foretell 12 = .ok (.iload_n 2, 1) := by decide +kernel
theorem d_Pa_foretell_13 : decode b_Pa_foretell 13 = .ok (.invokestatic 66, 3) := by decide +kernel
theorem d_Pa_foretell_16 : decode b_Pa_foretell 16 = .ok (.ifCond .eq 14, 3) := by decide +kernel
theorem d_Pa_foretell_19 : decode b_Pa_foretell 19 = .ok (.iload_n 3, 1) := by decide +kernel
theorem d_Pa_foretell_20 : decode b_Pa_foretell 20 = .ok (.iconst 1, 1) := by decide +kernel
theorem d_Pa_foretell_21 : decode b_Pa_foretell 21 = .ok (.if_icmp .lt 9, 3) := by decide +kernel
theorem d_Pa_foretell_24 : decode b_Pa_foretell 24 = .ok (.iload_n 3, 1) := by decide +kernel
theorem d_Pa_foretell_25 : decode b_Pa_foretell 25 = .ok (.bipush 100, 2) := by decide +kernel
theorem d_Pa_foretell_27 : decode b_Pa_foretell 27 = .ok (.if_icmp .le 5, 3) := by decide +kernel
theorem d_Pa_foretell_30 : decode b_Pa_foretell 30 = .ok (.iconst (-1), 1) := by decide +kernel
theorem d_Pa_foretell_31 : decode b_Pa_foretell 31 = .ok (.ireturn, 1) := by decide +kernel
theorem d_Pa_foretell_32 : decode b_Pa_foretell 32 = .ok (.aload_n 0, 1) := by decide +kernel
theorem d_Pa_foretell_33 : decode b_Pa_foretell 33 = .ok (.getfield 32, 3) := by decide +kernel
theorem d_Pa_foretell_36 : decode b_Pa_foretell 36 = .ok (.iconst 0, 1) := by decide +kernel
theorem d_Pa_foretell_37 : decode b_Pa_foretell 37 = .ok (.invokevirtual 70, 3) := by decide +kernel
theorem d_Pa_foretell_40 : decode b_Pa_foretell 40 = .ok (.aload_n 0, 1) := by decide +kernel
theorem d_Pa_foretell_41 : decode b_Pa_foretell 41 = .ok (.getfield 32, 3) := by decide +kernel
theorem d_Pa_foretell_44 : decode b_Pa_foretell 44 = .ok (.aload 4, 2) := by decide +kernel
theorem d_Pa_foretell_46 : decode b_Pa_foretell 46 = .ok (.iload_n 2, 1) := by decide +kernel
theorem d_Pa_foretell_47 : decode b_Pa_foretell 47 = .ok (.iload_n 3, 1) := by decide +kernel
theorem d_Pa_foretell_48 : decode b_Pa_foretell 48 = .ok (.aload_n 0, 1) := by decide +kernel
theorem d_Pa_foretell_49 : decode b_Pa_foretell 49 = .ok (.getfield 25, 3) := by decide +kernel
theorem d_Pa_foretell_52 : decode b_Pa_foretell 52 = .ok (.invokevirtual 73, 3) := by decide +kernel
theorem d_Pa_foretell_55 : decode b_Pa_foretell 55 = .ok (.aload_n 0, 1) := by decide +kernel
theorem d_Pa_foretell_56 : decode b_Pa_foretell 56 = .ok (.getfield 32, 3) := by decide +kernel
theorem d_Pa_foretell_59 : decode b_Pa_foretell 59 = .ok (.getfield 77, 3) := by decide +kernel
theorem d_Pa_foretell_62 : decode b_Pa_foretell 62 = .ok (.ireturn, 1) := by decide +kernel
theorem d_Pa_changed_0 : decode b_Pa_changed 0 = .ok (.aload_n 0, 1) := by decide +kernel
theorem d_Pa_changed_1 : decode b_Pa_changed 1 = .ok (.iload_n 1, 1) := by decide +kernel
theorem d_Pa_changed_2 : decode b_Pa_changed 2 = .ok (.invokevirtual 62, 3) := by decide +kernel
theorem d_Pa_changed_5 : decode b_Pa_changed 5 = .ok (.astore_n 3, 1) := by decide +kernel
theorem d_Pa_changed_6 : decode b_Pa_changed 6 = .ok (.aload_n 3, 1) := by decide +kernel
theorem d_Pa_changed_7 : decode b_Pa_changed 7 = .ok (.ifnull 10, 3) := by decide +kernel
theorem d_Pa_changed_10 : decode b_Pa_changed 10 = .ok (.iload_n 2, 1) := by decide +kernel
theorem d_Pa_changed_11 : decode b_Pa_changed 11 = .ok (.invokestatic 66, 3) := by decide +kernel
theorem d_Pa_changed_14 : decode b_Pa_changed 14 = .ok (.ifCond .ne 5, 3) := by decide +kernel
theorem d_Pa_changed_17 : decode b_Pa_changed 17 = .ok (.iconst (-1), 1) := by decide +kernel
theorem d_Pa_changed_18 : decode b_Pa_changed 18 = .ok (.ireturn, 1) := by decide +kernel
theorem d_Pa_changed_19 : decode b_Pa_changed 19 = .ok (.aload_n 0, 1) := by decide +kernel
theorem d_Pa_changed_20 : decode b_Pa_changed 20 = .ok (.getfield 32, 3) := by decide +kernel
theorem d_Pa_changed_23 : decode b_Pa_changed 23 = .ok (.iload_n 2, 1) := by decide +kernel
theorem d_Pa_changed_24 : decode b_Pa_changed 24 = .ok (.invokevirtual 80, 3) := by decide +kernel
theorem d_Pa_changed_27 : decode b_Pa_changed 27 = .ok (.istore 4, 2) := by decide +kernel
theorem d_Pa_changed_29 : decode b_Pa_changed 29 = .ok (.aload_n 0, 1) := by decide +kernel
theorem d_Pa_changed_30 : decode b_Pa_changed 30 = .ok (.getfield 32, 3) := by decide +kernel
theorem d_Pa_changed_33 : decode b_Pa_changed 33 = .ok (.iload 4, 2) := by decide +kernel
theorem d_Pa_changed_35 : decode b_Pa_changed 35 = .ok (.invokevirtual 84, 3) := by decide +kernel
theorem d_Pa_changed_38 : decode b_Pa_changed 38 = .ok (.ifCond .eq 5, 3) := by decide +kernel
theorem d_Pa_changed_41 : decode b_Pa_changed 41 = .ok (.iconst (-1), 1) := by decide +kernel
theorem d_Pa_changed_42 : decode b_Pa_changed 42 = .ok (.ireturn, 1) := by decide +kernel
theorem d_Pa_changed_43 : decode b_Pa_changed 43 = .ok (.aload_n 0, 1) := by decide +kernel
theorem d_Pa_changed_44 : decode b_Pa_changed 44 = .ok (.getfield 32, 3) := by decide +kernel
theorem d_Pa_changed_47 : decode b_Pa_changed 47 = .ok (.getfield 77, 3) := by decide +kernel
theorem d_Pa_changed_50 : decode b_Pa_changed 50 = .ok (.iload 4, 2) := by decide +kernel
theorem d_Pa_changed_52 : decode b_Pa_changed 52 = .ok (.isub, 1) := by decide +kernel
theorem d_Pa_changed_53 : decode b_Pa_changed 53 = .ok (.istore 5, 2) := by decide +kernel
theorem d_Pa_changed_55 : decode b_Pa_changed 55 = .ok (.aload_n 0, 1) := by decide +kernel
theorem d_Pa_changed_56 : decode b_Pa_changed 56 = .ok (.getfield 32, 3) := by decide +kernel
theorem d_Pa_changed_59 : decode b_Pa_changed 59 = .ok (.iload 4, 2) := by decide +kernel
theorem d_Pa_changed_61 : decode b_Pa_changed 61 = .ok (.invokevirtual 70, 3) := by decide +kernel
theorem d_Pa_changed_64 : decode b_Pa_changed 64 = .ok (.aload_n 0, 1) := by decide +kernel
theorem d_Pa_changed_65 : decode b_Pa_changed 65 = .ok (.getfield 32, 3) := by decide +kernel
theorem d_Pa_changed_68 : decode b_Pa_changed 68 = .ok (.aload_n 3, 1) := by decide +kernel
theorem d_Pa_changed_69 : decode b_Pa_changed 69 = .ok (.iload_n 2, 1) := by decide +kernel
theorem d_Pa_changed_70 : decode b_Pa_changed 70 = .ok (.iload 5, 2) := by decide +kernel
theorem d_Pa_changed_72 : decode b_Pa_changed 72 = .ok (.aload_n 0, 1) := by decide +kernel
theorem d_Pa_changed_73 : decode b_Pa_changed 73 = .ok (.getfield 25, 3) := by decide +kernel
theorem d_Pa_changed_76 : decode b_Pa_changed 76 = .ok (.invokevirtual 73, 3) := by decide +kernel
theorem d_Pa_changed_79 : decode b_Pa_changed 79 = .ok (.iload 5, 2) := by decide +kernel
theorem d_Pa_changed_81 : decode b_Pa_changed 81 = .ok (.ireturn, 1) := by decide +kernel
theorem d_Pa_issue_0 : decode b_Pa_issue 0 = .ok (.aload_n 0, 1) := by decide +kernel
theorem d_Pa_issue_1 : decode b_Pa_issue 1 = .ok (.getfield 32, 3) := by decide +kernel
theorem d_Pa_issue_4 : decode b_Pa_issue 4 = .ok (.iload_n 1, 1) := by decide +kernel
theorem d_Pa_issue_5 : decode b_Pa_issue 5 = .ok (.invokevirtual 87, 3) := by decide +kernel
theorem d_Pa_issue_8 : decode b_Pa_issue 8 = .ok (.ifCond .ne 5, 3) := by decide +kernel
theorem d_Pa_issue_11 : decode b_Pa_issue 11 = .ok (.iconst (-1), 1) := by decide +kernel
theorem d_Pa_issue_12 : decode b_Pa_issue 12 = .ok (.ireturn, 1) := by decide +kernel
theorem d_Pa_issue_13 : decode b_Pa_issue 13 = .ok (.iload_n 2, 1) := by decide +kernel
theorem d_Pa_issue_14 : decode b_Pa_issue 14 = .ok (.tableswitch 105 0 5 #[38, 48, 58, 68, 78, 88], 38) := by decide +kernel
theorem d_Pa_issue_52 : decode b_Pa_issue 52 = .ok (.aload_n 0, 1) := by decide +kernel
theorem d_Pa_issue_53 : decode b_Pa_issue 53 = .ok (.getfield 32, 3) := by decide +kernel
theorem d_Pa_issue_56 : decode b_Pa_issue 56 = .ok (.getfield 90, 3) := by decide +kernel
theorem d_Pa_issue_59 : decode b_Pa_issue 59 = .ok (.iload_n 1, 1) := by decide +kernel
theorem d_Pa_issue_60 : decode b_Pa_issue 60 = .ok (.iaload, 1) := by decide +kernel
theorem d_Pa_issue_61 : decode b_Pa_issue 61 = .ok (.ireturn, 1) := by decide +kernel
theorem d_Pa_issue_62 : decode b_Pa_issue 62 = .ok (.aload_n 0, 1) := by decide +kernel
theorem d_Pa_issue_63 : decode b_Pa_issue 63 = .ok (.getfield 32, 3) := by decide +kernel
theorem d_Pa_issue_66 : decode b_Pa_issue 66 = .ok (.getfield 94, 3) := by decide +kernel
theorem d_Pa_issue_69 : decode b_Pa_issue 69 = .ok (.iload_n 1, 1) := by decide +kernel
theorem d_Pa_issue_70 : decode b_Pa_issue 70 = .ok (.iaload, 1) := by decide +kernel
theorem d_Pa_issue_71 : decode b_Pa_issue 71 = .ok (.ireturn, 1) := by decide +kernel
theorem d_Pa_issue_72 : decode b_Pa_issue 72 = .ok (.aload_n 0, 1) := by decide +kernel
theorem d_Pa_issue_73 : decode b_Pa_issue 73 = .ok (.getfield 32, 3) := by decide +kernel
theorem d_Pa_issue_76 : decode b_Pa_issue 76 = .ok (.getfield 97, 3) := by decide +kernel
theorem d_Pa_issue_79 : decode b_Pa_issue 79 = .ok (.iload_n 1, 1) := by decide +kernel
theorem d_Pa_issue_80 : decode b_Pa_issue 80 = .ok (.iaload, 1) := by decide +kernel
theorem d_Pa_issue_81 : decode b_Pa_issue 81 = .ok (.ireturn, 1) := by decide +kernel
theorem d_Pa_issue_82 : decode b_Pa_issue 82 = .ok (.aload_n 0, 1) := by decide +kernel
theorem d_Pa_issue_83 : decode b_Pa_issue 83 = .ok (.getfield 32, 3) := by decide +kernel
theorem d_Pa_issue_86 : decode b_Pa_issue 86 = .ok (.getfield 100, 3) := by decide +kernel
theorem d_Pa_issue_89 : decode b_Pa_issue 89 = .ok (.iload_n 1, 1) := by decide +kernel
theorem d_Pa_issue_90 : decode b_Pa_issue 90 = .ok (.iaload, 1) := by decide +kernel
theorem d_Pa_issue_91 : decode b_Pa_issue 91 = .ok (.ireturn, 1) := by decide +kernel
theorem d_Pa_issue_92 : decode b_Pa_issue 92 = .ok (.aload_n 0, 1) := by decide +kernel
theorem d_Pa_issue_93 : decode b_Pa_issue 93 = .ok (.getfield 32, 3) := by decide +kernel
theorem d_Pa_issue_96 : decode b_Pa_issue 96 = .ok (.getfield 103, 3) := by decide +kernel
theorem d_Pa_issue_99 : decode b_Pa_issue 99 = .ok (.iload_n 1, 1) := by decide +kernel
theorem d_Pa_issue_100 : decode b_Pa_issue 100 = .ok (.iaload, 1) := by decide +kernel
theorem d_Pa_issue_101 : decode b_Pa_issue 101 = .ok (.ireturn, 1) := by decide +kernel
theorem d_Pa_issue_102 : decode b_Pa_issue 102 = .ok (.aload_n 0, 1) := by decide +kernel
theorem d_Pa_issue_103 : decode b_Pa_issue 103 = .ok (.getfield 32, 3) := by decide +kernel
theorem d_Pa_issue_106 : decode b_Pa_issue 106 = .ok (.iload_n 1, 1) := by decide +kernel
theorem d_Pa_issue_107 : decode b_Pa_issue 107 = .ok (.invokevirtual 105, 3) := by decide +kernel
theorem d_Pa_issue_110 : decode b_Pa_issue 110 = .ok (.ifCond .eq 7, 3) := by decide +kernel
theorem d_Pa_issue_113 : decode b_Pa_issue 113 = .ok (.iconst 0, 1) := by decide +kernel
theorem d_Pa_issue_114 : decode b_Pa_issue 114 = .ok (.goto 4, 3) := by decide +kernel
theorem d_Pa_issue_117 : decode b_Pa_issue 117 = .ok (.iconst 1, 1) := by decide +kernel
theorem d_Pa_issue_118 : decode b_Pa_issue 118 = .ok (.ireturn, 1) := by decide +kernel
theorem d_Pa_issue_119 : decode b_Pa_issue 119 = .ok (.iconst (-1), 1) := by decide +kernel
theorem d_Pa_issue_120 : decode b_Pa_issue 120 = .ok (.ireturn, 1) := by decide +kernel
theorem d_Pa_date_0 : decode b_Pa_date 0 = .ok (.aload_n 0, 1) := by decide +kernel
theorem d_Pa_date_1 : decode b_Pa_date 1 = .ok (.getfield 32, 3) := by decide +kernel
theorem d_Pa_date_4 : decode b_Pa_date 4 = .ok (.iload_n 1, 1) := by decide +kernel
theorem d_Pa_date_5 : decode b_Pa_date 5 = .ok (.invokevirtual 87, 3) := by decide +kernel
theorem d_Pa_date_8 : decode b_Pa_date 8 = .ok (.ifCond .eq 16, 3) := by decide +kernel
theorem d_Pa_date_11 : decode b_Pa_date 11 = .ok (.aload_n 0, 1) := by decide +kernel
theorem d_Pa_date_12 : decode b_Pa_date 12 = .ok (.getfield 32, 3) := by decide +kernel
theorem d_Pa_date_15 : decode b_Pa_date 15 = .ok (.getfield 108, 3) := by decide +kernel
theorem d_Pa_date_18 : decode b_Pa_date 18 = .ok (.iload_n 1, 1) := by decide +kernel
theorem d_Pa_date_19 : decode b_Pa_date 19 = .ok (.iaload, 1) := by decide +kernel
theorem d_Pa_date_20 : decode b_Pa_date 20 = .ok (.i2l, 1) := by decide +kernel
theorem d_Pa_date_21 : decode b_Pa_date 21 = .ok (.goto 6, 3) := by decide +kernel
theorem d_Pa_date_24 : decode b_Pa_date 24 = .ok (.ldc2_w 111, 3) := by decide +kernel
theorem d_Pa_date_27 : decode b_Pa_date 27 = .ok (.lreturn, 1) := by decide +kernel
theorem d_Pa_irregular_0 : decode b_Pa_irregular 0 = .ok (.aload_n 0, 1) := by decide +kernel
theorem d_Pa_irregular_1 : decode b_Pa_irregular 1 = .ok (.getfield 32, 3) := by decide +kernel
theorem d_Pa_irregular_4 : decode b_Pa_irregular 4 = .ok (.iload_n 1, 1) := by decide +kernel
theorem d_Pa_irregular_5 : decode b_Pa_irregular 5 = .ok (.invokevirtual 105, 3) := by decide +kernel
theorem d_Pa_irregular_8 : decode b_Pa_irregular 8 = .ok (.ifCond .eq 10, 3) := by decide +kernel
theorem d_Pa_irregular_11 : decode b_Pa_irregular 11 = .ok (.iload_n 2, 1) := by decide +kernel
theorem d_Pa_irregular_12 : decode b_Pa_irregular 12 = .ok (.invokestatic 66, 3) := by decide +kernel
theorem d_Pa_irregular_15 : decode b_Pa_irregular 15 = .ok (.ifCond .ne 5, 3) := by decide +kernel
theorem d_Pa_irregular_18 : decode b_Pa_irregular 18 = .ok (.iconst 0, 1) := by decide +kernel
theorem d_Pa_irregular_19 : decode b_Pa_irregular 19 = .ok (.ireturn, 1) := by decide +kernel
theorem d_Pa_irregular_20 : decode b_Pa_irregular 20 = .ok (.aload_n 0, 1) := by decide +kernel
theorem d_Pa_irregular_21 : decode b_Pa_irregular 21 = .ok (.getfield 32, 3) := by decide +kernel
theorem d_Pa_irregular_24 : decode b_Pa_irregular 24 = .ok (.getfield 108, 3) := by decide +kernel
theorem d_Pa_irregular_27 : decode b_Pa_irregular 27 = .ok (.iload_n 1, 1) := by decide +kernel
theorem d_Pa_irregular_28 : decode b_Pa_irregular 28 = .ok (.iload_n 2, 1) := by decide +kernel
theorem d_Pa_irregular_29 : decode b_Pa_irregular 29 = .ok (.iastore, 1) := by decide +kernel
theorem d_Pa_irregular_30 : decode b_Pa_irregular 30 = .ok (.iconst 1, 1) := by decide +kernel
theorem d_Pa_irregular_31 : decode b_Pa_irregular 31 = .ok (.ireturn, 1) := by decide +kernel
theorem d_Pa_holiday_0 : decode b_Pa_holiday 0 = .ok (.iload_n 1, 1) := by decide +kernel
theorem d_Pa_holiday_1 : decode b_Pa_holiday 1 = .ok (.invokestatic 66, 3) := by decide +kernel
theorem d_Pa_holiday_4 : decode b_Pa_holiday 4 = .ok (.ifCond .eq 24, 3) := by decide +kernel
theorem d_Pa_holiday_7 : decode b_Pa_holiday 7 = .ok (.aload_n 0, 1) := by decide +kernel
theorem d_Pa_holiday_8 : decode b_Pa_holiday 8 = .ok (.getfield 25, 3) := by decide +kernel
theorem d_Pa_holiday_11 : decode b_Pa_holiday 11 = .ok (.iload_n 1, 1) := by decide +kernel
theorem d_Pa_holiday_12 : decode b_Pa_holiday 12 = .ok (.invokevirtual 113, 3) := by decide +kernel
theorem d_Pa_holiday_15 : decode b_Pa_holiday 15 = .ok (.ifCond .eq 13, 3) := by decide +kernel
theorem d_Pa_holiday_18 : decode b_Pa_holiday 18 = .ok (.aload_n 0, 1) := by decide +kernel
theorem d_Pa_holiday_19 : decode b_Pa_holiday 19 = .ok (.getfield 25, 3) := by decide +kernel
theorem d_Pa_holiday_22 : decode b_Pa_holiday 22 = .ok (.getfield 116, 3) := by decide +kernel
theorem d_Pa_holiday_25 : decode b_Pa_holiday 25 = .ok (.goto 4, 3) := by decide +kernel
theorem d_Pa_holiday_28 : decode b_Pa_holiday 28 = .ok (.iconst 0, 1) := by decide +kernel
theorem d_Pa_holiday_29 : decode b_Pa_holiday 29 = .ok (.ireturn, 1) := by decide +kernel
theorem d_Pa_came_0 : decode b_Pa_came 0 = .ok (.aload_n 0, 1) := by decide +kernel
theorem d_Pa_came_1 : decode b_Pa_came 1 = .ok (.getfield 32, 3) := by decide +kernel
theorem d_Pa_came_4 : decode b_Pa_came 4 = .ok (.iload_n 1, 1) := by decide +kernel
theorem d_Pa_came_5 : decode b_Pa_came 5 = .ok (.invokevirtual 105, 3) := by decide +kernel
theorem d_Pa_came_8 : decode b_Pa_came 8 = .ok (.ifCond .eq 10, 3) := by decide +kernel
theorem d_Pa_came_11 : decode b_Pa_came 11 = .ok (.iload_n 2, 1) := by decide +kernel
theorem d_Pa_came_12 : decode b_Pa_came 12 = .ok (.invokestatic 66, 3) := by decide +kernel
theorem d_Pa_came_15 : decode b_Pa_came 15 = .ok (.ifCond .ne 5, 3) := by decide +kernel
theorem d_Pa_came_18 : decode b_Pa_came 18 = .ok (.iconst 0, 1) := by decide +kernel
theorem d_Pa_came_19 : decode b_Pa_came 19 = .ok (.ireturn, 1) := by decide +kernel
theorem d_Pa_came_20 : decode b_Pa_came 20 = .ok (.aload_n 0, 1) := by decide +kernel
theorem d_Pa_came_21 : decode b_Pa_came 21 = .ok (.getfield 32, 3) := by decide +kernel
theorem d_Pa_came_24 : decode b_Pa_came 24 = .ok (.getfield 119, 3) := by decide +kernel
theorem d_Pa_came_27 : decode b_Pa_came 27 = .ok (.iload_n 1, 1) := by decide +kernel
theorem d_Pa_came_28 : decode b_Pa_came 28 = .ok (.iload_n 2, 1) := by decide +kernel
theorem d_Pa_came_29 : decode b_Pa_came 29 = .ok (.iastore, 1) := by decide +kernel
theorem d_Pa_came_30 : decode b_Pa_came 30 = .ok (.iconst 1, 1) := by decide +kernel
theorem d_Pa_came_31 : decode b_Pa_came 31 = .ok (.ireturn, 1) := by decide +kernel
theorem d_Pa_late_0 : decode b_Pa_late 0 = .ok (.aload_n 0, 1) := by decide +kernel
theorem d_Pa_late_1 : decode b_Pa_late 1 = .ok (.getfield 32, 3) := by decide +kernel
theorem d_Pa_late_4 : decode b_Pa_late 4 = .ok (.iload_n 1, 1) := by decide +kernel
theorem d_Pa_late_5 : decode b_Pa_late 5 = .ok (.invokevirtual 87, 3) := by decide +kernel
theorem d_Pa_late_8 : decode b_Pa_late 8 = .ok (.ifCond .eq 10, 3) := by decide +kernel
theorem d_Pa_late_11 : decode b_Pa_late 11 = .ok (.iload_n 2, 1) := by decide +kernel
theorem d_Pa_late_12 : decode b_Pa_late 12 = .ok (.invokestatic 66, 3) := by decide +kernel
theorem d_Pa_late_15 : decode b_Pa_late 15 = .ok (.ifCond .ne 5, 3) := by decide +kernel
theorem d_Pa_late_18 : decode b_Pa_late 18 = .ok (.iconst (-1), 1) := by decide +kernel
theorem d_Pa_late_19 : decode b_Pa_late 19 = .ok (.ireturn, 1) := by decide +kernel
theorem d_Pa_late_20 : decode b_Pa_late 20 = .ok (.aload_n 0, 1) := by decide +kernel
theorem d_Pa_late_21 : decode b_Pa_late 21 = .ok (.getfield 32, 3) := by decide +kernel
theorem d_Pa_late_24 : decode b_Pa_late 24 = .ok (.iload_n 1, 1) := by decide +kernel
theorem d_Pa_late_25 : decode b_Pa_late 25 = .ok (.invokevirtual 105, 3) := by decide +kernel
theorem d_Pa_late_28 : decode b_Pa_late 28 = .ok (.ifCond .eq 7, 3) := by decide +kernel
theorem d_Pa_late_31 : decode b_Pa_late 31 = .ok (.iload_n 2, 1) := by decide +kernel
theorem d_Pa_late_32 : decode b_Pa_late 32 = .ok (.goto 12, 3) := by decide +kernel
theorem d_Pa_late_35 : decode b_Pa_late 35 = .ok (.aload_n 0, 1) := by decide +kernel
theorem d_Pa_late_36 : decode b_Pa_late 36 = .ok (.getfield 32, 3) := by decide +kernel
theorem d_Pa_late_39 : decode b_Pa_late 39 = .ok (.getfield 119, 3) := by decide +kernel
theorem d_Pa_late_42 : decode b_Pa_late 42 = .ok (.iload_n 1, 1) := by decide +kernel
theorem d_Pa_late_43 : decode b_Pa_late 43 = .ok (.iaload, 1) := by decide +kernel
theorem d_Pa_late_44 : decode b_Pa_late 44 = .ok (.istore_n 3, 1) := by decide +kernel
theorem d_Pa_late_45 : decode b_Pa_late 45 = .ok (.iconst 0, 1) := by decide +kernel
theorem d_Pa_late_46 : decode b_Pa_late 46 = .ok (.iload_n 3, 1) := by decide +kernel
theorem d_Pa_late_47 : decode b_Pa_late 47 = .ok (.aload_n 0, 1) := by decide +kernel
theorem d_Pa_late_48 : decode b_Pa_late 48 = .ok (.getfield 32, 3) := by decide +kernel
theorem d_Pa_late_51 : decode b_Pa_late 51 = .ok (.getfield 108, 3) := by decide +kernel
theorem d_Pa_late_54 : decode b_Pa_late 54 = .ok (.iload_n 1, 1) := by decide +kernel
theorem d_Pa_late_55 : decode b_Pa_late 55 = .ok (.iaload, 1) := by decide +kernel
theorem d_Pa_late_56 : decode b_Pa_late 56 = .ok (.isub, 1) := by decide +kernel
theorem d_Pa_late_57 : decode b_Pa_late 57 = .ok (.invokestatic 122, 3) := by decide +kernel
theorem d_Pa_late_60 : decode b_Pa_late 60 = .ok (.ireturn, 1) := by decide +kernel
theorem d_Pa_claim_0 : decode b_Pa_claim 0 = .ok (.iload_n 1, 1) := by decide +kernel
theorem d_Pa_claim_1 : decode b_Pa_claim 1 = .ok (.invokestatic 66, 3) := by decide +kernel
theorem d_Pa_claim_4 : decode b_Pa_claim 4 = .ok (.ifCond .eq 19, 3) := by decide +kernel
theorem d_Pa_claim_7 : decode b_Pa_claim 7 = .ok (.iload_n 2, 1) := by decide +kernel
theorem d_Pa_claim_8 : decode b_Pa_claim 8 = .ok (.ifCond .lt 15, 3) := by decide +kernel
theorem d_Pa_claim_11 : decode b_Pa_claim 11 = .ok (.iload_n 2, 1) := by decide +kernel
theorem d_Pa_claim_12 : decode b_Pa_claim 12 = .ok (.aload_n 0, 1) := by decide +kernel
theorem d_Pa_claim_13 : decode b_Pa_claim 13 = .ok (.getfield 32, 3) := by decide +kernel
theorem d_Pa_claim_16 : decode b_Pa_claim 16 = .ok (.iload_n 1, 1) := by decide +kernel
theorem d_Pa_claim_17 : decode b_Pa_claim 17 = .ok (.invokevirtual 128, 3) := by decide +kernel
theorem d_Pa_claim_20 : decode b_Pa_claim 20 = .ok (.if_icmp .lt 5, 3) := by decide +kernel
theorem d_Pa_claim_23 : decode b_Pa_claim 23 = .ok (.iconst (-1), 1) := by decide +kernel
theorem d_Pa_claim_24 : decode b_Pa_claim 24 = .ok (.ireturn, 1) := by decide +kernel
theorem d_Pa_claim_25 : decode b_Pa_claim 25 = .ok (.iconst (-1), 1) := by decide +kernel
theorem d_Pa_claim_26 : decode b_Pa_claim 26 = .ok (.istore_n 3, 1) := by decide +kernel
theorem d_Pa_claim_27 : decode b_Pa_claim 27 = .ok (.iconst 0, 1) := by decide +kernel
theorem d_Pa_claim_28 : decode b_Pa_claim 28 = .ok (.istore 4, 2) := by decide +kernel
theorem d_Pa_claim_30 : decode b_Pa_claim 30 = .ok (.iload 4, 2) := by decide +kernel
theorem d_Pa_claim_32 : decode b_Pa_claim 32 = .ok (.iload_n 2, 1) := by decide +kernel
theorem d_Pa_claim_33 : decode b_Pa_claim 33 = .ok (.if_icmp .gt 19, 3) := by decide +kernel
theorem d_Pa_claim_36 : decode b_Pa_claim 36 = .ok (.aload_n 0, 1) := by decide +kernel
theorem d_Pa_claim_37 : decode b_Pa_claim 37 = .ok (.getfield 32, 3) := by decide +kernel
theorem d_Pa_claim_40 : decode b_Pa_claim 40 = .ok (.iload_n 1, 1) := by decide +kernel
theorem d_Pa_claim_41 : decode b_Pa_claim 41 = .ok (.iload_n 3, 1) := by decide +kernel
theorem d_Pa_claim_42 : decode b_Pa_claim 42 = .ok (.invokevirtual 131, 3) := by decide +kernel
theorem d_Pa_claim_45 : decode b_Pa_claim 45 = .ok (.istore_n 3, 1) := by decide +kernel
theorem d_Pa_claim_46 : decode b_Pa_claim 46 = .ok (.iinc 4 1, 3) := by decide +kernel
theorem d_Pa_claim_49 : decode b_Pa_claim 49 = .ok (.goto (-19), 3) := by decide +kernel
theorem d_Pa_claim_52 : decode b_Pa_claim 52 = .ok (.iload_n 3, 1) := by decide +kernel
theorem d_Pa_claim_53 : decode b_Pa_claim 53 = .ok (.ireturn, 1) := by decide +kernel
theorem d_Pa_print_0 : decode b_Pa_print 0 = .ok (.aload_n 0, 1) := by decide +kernel
theorem d_Pa_print_1 : decode b_Pa_print 1 = .ok (.iload_n 1, 1) := by decide +kernel
theorem d_Pa_print_2 : decode b_Pa_print 2 = .ok (.invokevirtual 62, 3) := by decide +kernel
theorem d_Pa_print_5 : decode b_Pa_print 5 = .ok (.astore_n 2, 1) := by decide +kernel
theorem d_Pa_print_6 : decode b_Pa_print 6 = .ok (.aload_n 2, 1) := by decide +kernel
theorem d_Pa_print_7 : decode b_Pa_print 7 = .ok (.ifnonnull 5, 3) := by decide +kernel
theorem d_Pa_print_10 : decode b_Pa_print 10 = .ok (.iconst 0, 1) := by decide +kernel
theorem d_Pa_print_11 : decode b_Pa_print 11 = .ok (.ireturn, 1) := by decide +kernel
theorem d_Pa_print_12 : decode b_Pa_print 12 = .ok (.aload_n 0, 1) := by decide +kernel
theorem d_Pa_print_13 : decode b_Pa_print 13 = .ok (.aload_n 2, 1) := by decide +kernel
theorem d_Pa_print_14 : decode b_Pa_print 14 = .ok (.putfield 40, 3) := by decide +kernel
theorem d_Pa_print_17 : decode b_Pa_print 17 = .ok (.aload_n 2, 1) := by decide +kernel
theorem d_Pa_print_18 : decode b_Pa_print 18 = .ok (.getfield 134, 3) := by decide +kernel
theorem d_Pa_print_21 : decode b_Pa_print 21 = .ok (.arraylength, 1) := by decide +kernel
theorem d_Pa_print_22 : decode b_Pa_print 22 = .ok (.ireturn, 1) := by decide +kernel
theorem d_Pa_at_0 : decode b_Pa_at 0 = .ok (.aload_n 0, 1) := by decide +kernel
theorem d_Pa_at_1 : decode b_Pa_at 1 = .ok (.getfield 40, 3) := by decide +kernel
theorem d_Pa_at_4 : decode b_Pa_at 4 = .ok (.ifnull 19, 3) := by decide +kernel
theorem d_Pa_at_7 : decode b_Pa_at 7 = .ok (.iload_n 1, 1) := by decide +kernel
theorem d_Pa_at_8 : decode b_Pa_at 8 = .ok (.ifCond .lt 15, 3) := by decide +kernel
theorem d_Pa_at_11 : decode b_Pa_at 11 = .ok (.iload_n 1, 1) := by decide +kernel
theorem d_Pa_at_12 : decode b_Pa_at 12 = .ok (.aload_n 0, 1) := by decide +kernel
theorem d_Pa_at_13 : decode b_Pa_at 13 = .ok (.getfield 40, 3) := by decide +kernel
theorem d_Pa_at_16 : decode b_Pa_at 16 = .ok (.getfield 134, 3) := by decide +kernel
theorem d_Pa_at_19 : decode b_Pa_at 19 = .ok (.arraylength, 1) := by decide +kernel
theorem d_Pa_at_20 : decode b_Pa_at 20 = .ok (.if_icmp .lt 5, 3) := by decide +kernel
theorem d_Pa_at_23 : decode b_Pa_at 23 = .ok (.iconst (-1), 1) := by decide +kernel
theorem d_Pa_at_24 : decode b_Pa_at 24 = .ok (.ireturn, 1) := by decide +kernel
theorem d_Pa_at_25 : decode b_Pa_at 25 = .ok (.aload_n 0, 1) := by decide +kernel
theorem d_Pa_at_26 : decode b_Pa_at 26 = .ok (.getfield 40, 3) := by decide +kernel
theorem d_Pa_at_29 : decode b_Pa_at 29 = .ok (.getfield 134, 3) := by decide +kernel
theorem d_Pa_at_32 : decode b_Pa_at 32 = .ok (.iload_n 1, 1) := by decide +kernel
theorem d_Pa_at_33 : decode b_Pa_at 33 = .ok (.iaload, 1) := by decide +kernel
theorem d_Pa_at_34 : decode b_Pa_at 34 = .ok (.ireturn, 1) := by decide +kernel
theorem d_Pa_yearly_0 : decode b_Pa_yearly 0 = .ok (.aload_n 0, 1) := by decide +kernel
theorem d_Pa_yearly_1 : decode b_Pa_yearly 1 = .ok (.iload_n 1, 1) := by decide +kernel
theorem d_Pa_yearly_2 : decode b_Pa_yearly 2 = .ok (.invokevirtual 62, 3) := by decide +kernel
theorem d_Pa_yearly_5 : decode b_Pa_yearly 5 = .ok (.astore 4, 2) := by decide +kernel
theorem d_Pa_yearly_7 : decode b_Pa_yearly 7 = .ok (.aload 4, 2) := by decide +kernel
theorem d_Pa_yearly_9 : decode b_Pa_yearly 9 = .ok (.ifnull 10, 3) := by decide +kernel
theorem d_Pa_yearly_12 : decode b_Pa_yearly 12 = .ok (.iload_n 2, 1) := by decide +kernel
theorem d_Pa_yearly_13 : decode b_Pa_yearly 13 = .ok (.invokestatic 66, 3) := by decide +kernel
theorem d_Pa_yearly_16 : decode b_Pa_yearly 16 = .ok (.ifCond .ne 5, 3) := by decide +kernel
theorem d_Pa_yearly_19 : decode b_Pa_yearly 19 = .ok (.iconst (-1), 1) := by decide +kernel
theorem d_Pa_yearly_20 : decode b_Pa_yearly 20 = .ok (.ireturn, 1) := by decide +kernel
theorem d_Pa_yearly_21 : decode b_Pa_yearly 21 = .ok (.iload_n 3, 1) := by decide +kernel
theorem d_Pa_yearly_22 : decode b_Pa_yearly 22 = .ok (.ifCond .ne 13, 3) := by decide +kernel
theorem d_Pa_yearly_25 : decode b_Pa_yearly 25 = .ok (.new 137, 3) := by decide +kernel
theorem d_Pa_yearly_28 : decode b_Pa_yearly 28 = .ok (.dup, 1) := by decide +kernel
theorem d_Pa_yearly_29 : decode b_Pa_yearly 29 = .ok (.ldc 139, 2) := by decide +kernel
theorem d_Pa_yearly_31 : decode b_Pa_yearly 31 = .ok (.invokespecial 141, 3) := by decide +kernel
theorem d_Pa_yearly_34 : decode b_Pa_yearly 34 = .ok (.athrow, 1) := by decide +kernel
theorem d_Pa_yearly_35 : decode b_Pa_yearly 35 = .ok (.aload 4, 2) := by decide +kernel
theorem d_Pa_yearly_37 : decode b_Pa_yearly 37 = .ok (.iload_n 2, 1) := by decide +kernel
theorem d_Pa_yearly_38 : decode b_Pa_yearly 38 = .ok (.invokevirtual 144, 3) := by decide +kernel
theorem d_Pa_yearly_41 : decode b_Pa_yearly 41 = .ok (.iload_n 3, 1) := by decide +kernel
theorem d_Pa_yearly_42 : decode b_Pa_yearly 42 = .ok (.idiv, 1) := by decide +kernel
theorem d_Pa_yearly_43 : decode b_Pa_yearly 43 = .ok (.ireturn, 1) := by decide +kernel
theorem d_Pa_isDay_0 : decode b_Pa_isDay 0 = .ok (.iload_n 0, 1) := by decide +kernel
theorem d_Pa_isDay_1 : decode b_Pa_isDay 1 = .ok (.ifCond .lt 13, 3) := by decide +kernel
theorem d_Pa_isDay_4 : decode b_Pa_isDay 4 = .ok (.iload_n 0, 1) := by decide +kernel
theorem d_Pa_isDay_5 : decode b_Pa_isDay 5 = .ok (.ldc 147, 2) := by decide +kernel
theorem d_Pa_isDay_7 : decode b_Pa_isDay 7 = .ok (.if_icmp .gt 7, 3) := by decide +kernel
theorem d_Pa_isDay_10 : decode b_Pa_isDay 10 = .ok (.iconst 1, 1) := by decide +kernel
theorem d_Pa_isDay_11 : decode b_Pa_isDay 11 = .ok (.goto 4, 3) := by decide +kernel
theorem d_Pa_isDay_14 : decode b_Pa_isDay 14 = .ok (.iconst 0, 1) := by decide +kernel
theorem d_Pa_isDay_15 : decode b_Pa_isDay 15 = .ok (.ireturn, 1) := by decide +kernel
theorem d_Pa_patternOf_0 : decode b_Pa_patternOf 0 = .ok (.iload_n 1, 1) := by decide +kernel
theorem d_Pa_patternOf_1 : decode b_Pa_patternOf 1 = .ok (.ifCond .lt 26, 3) := by decide +kernel
theorem d_Pa_patternOf_4 : decode b_Pa_patternOf 4 = .ok (.iload_n 1, 1) := by decide +kernel
theorem d_Pa_patternOf_5 : decode b_Pa_patternOf 5 = .ok (.aload_n 0, 1) := by decide +kernel
theorem d_Pa_patternOf_6 : decode b_Pa_patternOf 6 = .ok (.getfield 36, 3) := by decide +kernel
theorem d_Pa_patternOf_9 : decode b_Pa_patternOf 9 = .ok (.if_icmp .ge 18, 3) := by decide +kernel
theorem d_Pa_patternOf_12 : decode b_Pa_patternOf 12 = .ok (.iload_n 1, 1) := by decide +kernel
theorem d_Pa_patternOf_13 : decode b_Pa_patternOf 13 = .ok (.bipush 10, 2) := by decide +kernel
theorem d_Pa_patternOf_15 : decode b_Pa_patternOf 15 = .ok (.if_icmp .ge 12, 3) := by decide +kernel
theorem d_Pa_patternOf_18 : decode b_Pa_patternOf 18 = .ok (.aload_n 0, 1) := by decide +kernel
theorem d_Pa_patternOf_19 : decode b_Pa_patternOf 19 = .ok (.getfield 18, 3) := by decide +kernel
theorem d_Pa_patternOf_22 : decode b_Pa_patternOf 22 = .ok (.iload_n 1, 1) := by decide +kernel
theorem d_Pa_patternOf_23 : decode b_Pa_patternOf 23 = .ok (.aaload, 1) := by decide +kernel
theorem d_Pa_patternOf_24 : decode b_Pa_patternOf 24 = .ok (.goto 4, 3) := by decide +kernel
theorem d_Pa_patternOf_27 : decode b_Pa_patternOf 27 = .ok (.aconst_null, 1) := by decide +kernel
theorem d_Pa_patternOf_28 : decode b_Pa_patternOf 28 = .ok (.areturn, 1) := by decide +kernel
theorem d_Pa_keepPattern_0 : decode b_Pa_keepPattern 0 = .ok (.aload_n 0, 1) := by decide +kernel
theorem d_Pa_keepPattern_1 : decode b_Pa_keepPattern 1 = .ok (.getfield 36, 3) := by decide +kernel
theorem d_Pa_keepPattern_4 : decode b_Pa_keepPattern 4 = .ok (.bipush 10, 2) := by decide +kernel
theorem d_Pa_keepPattern_6 : decode b_Pa_keepPattern 6 = .ok (.if_icmp .lt 7, 3) := by decide +kernel
theorem d_Pa_keepPattern_9 : decode b_Pa_keepPattern 9 = .ok (.sipush (-200), 3) := by decide +kernel
theorem d_Pa_keepPattern_12 : decode b_Pa_keepPattern 12 = .ok (.ireturn, 1) := by decide +kernel
theorem d_Pa_keepPattern_13 : decode b_Pa_keepPattern 13 = .ok (.aload_n 0, 1) := by decide +kernel
theorem d_Pa_keepPattern_14 : decode b_Pa_keepPattern 14 = .ok (.getfield 36, 3) := by decide +kernel
theorem d_Pa_keepPattern_17 : decode b_Pa_keepPattern 17 = .ok (.istore_n 1, 1) := by decide +kernel
theorem d_Pa_keepPattern_18 : decode b_Pa_keepPattern 18 = .ok (.aload_n 0, 1) := by decide +kernel
theorem d_Pa_keepPattern_19 : decode b_Pa_keepPattern 19 = .ok (.getfield 18, 3) := by decide +kernel
theorem d_Pa_keepPattern_22 : decode b_Pa_keepPattern 22 = .ok (.iload_n 1, 1) := by decide +kernel
theorem d_Pa_keepPattern_23 : decode b_Pa_keepPattern 23 = .ok (.aload_n 0, 1) := by decide +kernel
theorem d_Pa_keepPattern_24 : decode b_Pa_keepPattern 24 = .ok (.getfield 10, 3) := by decide +kernel
theorem d_Pa_keepPattern_27 : decode b_Pa_keepPattern 27 = .ok (.iload_n 1, 1) := by decide +kernel
theorem d_Pa_keepPattern_28 : decode b_Pa_keepPattern 28 = .ok (.invokevirtual 148, 3) := by decide +kernel
theorem d_Pa_keepPattern_31 : decode b_Pa_keepPattern 31 = .ok (.aastore, 1) := by decide +kernel
theorem d_Pa_keepPattern_32 : decode b_Pa_keepPattern 32 = .ok (.aload_n 0, 1) := by decide +kernel
theorem d_Pa_keepPattern_33 : decode b_Pa_keepPattern 33 = .ok (.dup, 1) := by decide +kernel
theorem d_Pa_keepPattern_34 : decode b_Pa_keepPattern 34 = .ok (.getfield 36, 3) := by decide +kernel
theorem d_Pa_keepPattern_37 : decode b_Pa_keepPattern 37 = .ok (.iconst 1, 1) := by decide +kernel
theorem d_Pa_keepPattern_38 : decode b_Pa_keepPattern 38 = .ok (.iadd, 1) := by decide +kernel
theorem d_Pa_keepPattern_39 : decode b_Pa_keepPattern 39 = .ok (.putfield 36, 3) := by decide +kernel
theorem d_Pa_keepPattern_42 : decode b_Pa_keepPattern 42 = .ok (.iload_n 1, 1) := by decide +kernel
theorem d_Pa_keepPattern_43 : decode b_Pa_keepPattern 43 = .ok (.ireturn, 1) := by decide +kernel
