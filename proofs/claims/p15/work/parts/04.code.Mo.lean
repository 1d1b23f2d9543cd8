/-! decode rows of PatternTextModel -/
theorem d_Mo_init_0 : decode b_Mo_init 0 = .ok (.aload_n 0, 1) := by decide +kernel
theorem d_Mo_init_1 : decode b_Mo_init 1 = .ok (.invokespecial 1, 3) := by decide +kernel
theorem d_Mo_init_4 : decode b_Mo_init 4 = .ok (.aload_n 0, 1) := by decide +kernel
theorem d_Mo_init_5 : decode b_Mo_init 5 = .ok (.bipush 120, 2) := by decide +kernel
theorem d_Mo_init_7 : decode b_Mo_init 7 = .ok (.newarray .byte, 2) := by decide +kernel
theorem d_Mo_init_9 : decode b_Mo_init 9 = .ok (.putfield 7, 3) := by decide +kernel
theorem d_Mo_init_12 : decode b_Mo_init 12 = .ok (.aload_n 0, 1) := by decide +kernel
theorem d_Mo_init_13 : decode b_Mo_init 13 = .ok (.bipush 11, 2) := by decide +kernel
theorem d_Mo_init_15 : decode b_Mo_init 15 = .ok (.newarray .int, 2) := by decide +kernel
theorem d_Mo_init_17 : decode b_Mo_init 17 = .ok (.putfield 13, 3) := by decide +kernel
theorem d_Mo_init_20 : decode b_Mo_init 20 = .ok (.aload_n 0, 1) := by decide +kernel
theorem d_Mo_init_21 : decode b_Mo_init 21 = .ok (.bipush 11, 2) := by decide +kernel
theorem d_Mo_init_23 : decode b_Mo_init 23 = .ok (.newarray .int, 2) := by decide +kernel
theorem d_Mo_init_25 : decode b_Mo_init 25 = .ok (.putfield 17, 3) := by decide +kernel
theorem d_Mo_init_28 : decode b_Mo_init 28 = .ok (.aload_n 0, 1) := by decide +kernel
theorem d_Mo_init_29 : decode b_Mo_init 29 = .ok (.bipush 11, 2) := by decide +kernel
theorem d_Mo_init_31 : decode b_Mo_init 31 = .ok (.newarray .int, 2) := by decide +kernel
theorem d_Mo_init_33 : decode b_Mo_init 33 = .ok (.putfield 20, 3) := by decide +kernel
theorem d_Mo_init_36 : decode b_Mo_init 36 = .ok (.aload_n 0, 1) := by decide +kernel
theorem d_Mo_init_37 : decode b_Mo_init 37 = .ok (.bipush 11, 2) := by decide +kernel
theorem d_Mo_init_39 : decode b_Mo_init 39 = .ok (.newarray .int, 2) := by decide +kernel
theorem d_Mo_init_41 : decode b_Mo_init 41 = .ok (.putfield 23, 3) := by decide +kernel
theorem d_Mo_init_44 : decode b_Mo_init 44 = .ok (.aload_n 0, 1) := by decide +kernel
theorem d_Mo_init_45 : decode b_Mo_init 45 = .ok (.bipush 11, 2) := by decide +kernel
theorem d_Mo_init_47 : decode b_Mo_init 47 = .ok (.newarray .boolean, 2) := by decide +kernel
theorem d_Mo_init_49 : decode b_Mo_init 49 = .ok (.putfield 26, 3) := by decide +kernel
theorem d_Mo_init_52 : decode b_Mo_init 52 = .ok (.aload_n 0, 1) := by decide +kernel
theorem d_Mo_init_53 : decode b_Mo_init 53 = .ok (.sipush 1200, 3) := by decide +kernel
theorem d_Mo_init_56 : decode b_Mo_init 56 = .ok (.newarray .byte, 2) := by decide +kernel
theorem d_Mo_init_58 : decode b_Mo_init 58 = .ok (.putfield 30, 3) := by decide +kernel
theorem d_Mo_init_61 : decode b_Mo_init 61 = .ok (.aload_n 0, 1) := by decide +kernel
theorem d_Mo_init_62 : decode b_Mo_init 62 = .ok (.bipush 10, 2) := by decide +kernel
theorem d_Mo_init_64 : decode b_Mo_init 64 = .ok (.newarray .int, 2) := by decide +kernel
theorem d_Mo_init_66 : decode b_Mo_init 66 = .ok (.putfield 33, 3) := by decide +kernel
theorem d_Mo_init_69 : decode b_Mo_init 69 = .ok (.aload_n 0, 1) := by decide +kernel
theorem d_Mo_init_70 : decode b_Mo_init 70 = .ok (.bipush 60, 2) := by decide +kernel
theorem d_Mo_init_72 : decode b_Mo_init 72 = .ok (.newarray .int, 2) := by decide +kernel
theorem d_Mo_init_74 : decode b_Mo_init 74 = .ok (.putfield 36, 3) := by decide +kernel
theorem d_Mo_init_77 : decode b_Mo_init 77 = .ok (.aload_n 0, 1) := by decide +kernel
theorem d_Mo_init_78 : decode b_Mo_init 78 = .ok (.bipush 100, 2) := by decide +kernel
theorem d_Mo_init_80 : decode b_Mo_init 80 = .ok (.newarray .int, 2) := by decide +kernel
theorem d_Mo_init_82 : decode b_Mo_init 82 = .ok (.putfield 39, 3) := by decide +kernel
theorem d_Mo_init_85 : decode b_Mo_init 85 = .ok (.aload_n 0, 1) := by decide +kernel
theorem d_Mo_init_86 : decode b_Mo_init 86 = .ok (.bipush 100, 2) := by decide +kernel
theorem d_Mo_init_88 : decode b_Mo_init 88 = .ok (.newarray .int, 2) := by decide +kernel
theorem d_Mo_init_90 : decode b_Mo_init 90 = .ok (.putfield 42, 3) := by decide +kernel
theorem d_Mo_init_93 : decode b_Mo_init 93 = .ok (.aload_n 0, 1) := by decide +kernel
theorem d_Mo_init_94 : decode b_Mo_init 94 = .ok (.bipush 100, 2) := by decide +kernel
theorem d_Mo_init_96 : decode b_Mo_init 96 = .ok (.newarray .int, 2) := by decide +kernel
theorem d_Mo_init_98 : decode b_Mo_init 98 = .ok (.putfield 45, 3) := by decide +kernel
theorem d_Mo_init_101 : decode b_Mo_init 101 = .ok (.aload_n 0, 1) := by decide +kernel
theorem d_Mo_init_102 : decode b_Mo_init 102 = .ok (.bipush 100, 2) := by decide +kernel
theorem d_Mo_init_104 : decode b_Mo_init 104 = .ok (.newarray .boolean, 2) := by decide +kernel
theorem d_Mo_init_106 : decode b_Mo_init 106 = .ok (.putfield 48, 3) := by decide +kernel
theorem d_Mo_init_109 : decode b_Mo_init 109 = .ok (.aload_n 0, 1) := by decide +kernel
theorem d_Mo_init_110 : decode b_Mo_init 110 = .ok (.bipush 100, 2) := by decide +kernel
theorem d_Mo_init_112 : decode b_Mo_init 112 = .ok (.newarray .int, 2) := by decide +kernel
theorem d_Mo_init_114 : decode b_Mo_init 114 = .ok (.putfield 51, 3) := by decide +kernel
theorem d_Mo_init_117 : decode b_Mo_init 117 = .ok (.aload_n 0, 1) := by decide +kernel
theorem d_Mo_init_118 : decode b_Mo_init 118 = .ok (.bipush 100, 2) := by decide +kernel
theorem d_Mo_init_120 : decode b_Mo_init 120 = .ok (.newarray .int, 2) := by decide +kernel
theorem d_Mo_init_122 : decode b_Mo_init 122 = .ok (.putfield 54, 3) := by decide +kernel
theorem d_Mo_init_125 : decode b_Mo_init 125 = .ok (.aload_n 0, 1) := by decide +kernel
theorem d_Mo_init_126 : decode b_Mo_init 126 = .ok (.bipush 120, 2) := by decide +kernel
theorem d_Mo_init_128 : decode b_Mo_init 128 = .ok (.newarray .byte, 2) := by decide +kernel
theorem d_Mo_init_130 : decode b_Mo_init 130 = .ok (.putfield 57, 3) := by decide +kernel
theorem d_Mo_init_133 : decode b_Mo_init 133 = .ok (.return_, 1) := by decide +kernel
theorem d_Mo_thrown_0 : decode b_Mo_thrown 0 = .ok (.aload_n 0, 1) := by decide +kernel
theorem d_Mo_thrown_1 : decode b_Mo_thrown 1 = .ok (.getfield 60, 3) := by decide +kernel
theorem d_Mo_thrown_4 : decode b_Mo_thrown 4 = .ok (.ireturn, 1) := by decide +kernel
theorem d_Mo_sign_0 : decode b_Mo_sign 0 = .ok (.aload_n 0, 1) := by decide +kernel
theorem d_Mo_sign_1 : decode b_Mo_sign 1 = .ok (.iconst 0, 1) := by decide +kernel
theorem d_Mo_sign_2 : decode b_Mo_sign 2 = .ok (.putfield 60, 3) := by decide +kernel
theorem d_Mo_sign_5 : decode b_Mo_sign 5 = .ok (.aload_n 0, 1) := by decide +kernel
theorem d_Mo_sign_6 : decode b_Mo_sign 6 = .ok (.getfield 64, 3) := by decide +kernel
theorem d_Mo_sign_9 : decode b_Mo_sign 9 = .ok (.bipush 120, 2) := by decide +kernel
theorem d_Mo_sign_11 : decode b_Mo_sign 11 = .ok (.if_icmp .ge 24, 3) := by decide +kernel
theorem d_Mo_sign_14 : decode b_Mo_sign 14 = .ok (.aload_n 0, 1) := by decide +kernel
theorem d_Mo_sign_15 : decode b_Mo_sign 15 = .ok (.getfield 7, 3) := by decide +kernel
theorem d_Mo_sign_18 : decode b_Mo_sign 18 = .ok (.aload_n 0, 1) := by decide +kernel
theorem d_Mo_sign_19 : decode b_Mo_sign 19 = .ok (.getfield 64, 3) := by decide +kernel
theorem d_Mo_sign_22 : decode b_Mo_sign 22 = .ok (.iload_n 1, 1) := by decide +kernel
theorem d_Mo_sign_23 : decode b_Mo_sign 23 = .ok (.i2b, 1) := by decide +kernel
theorem d_Mo_sign_24 : decode b_Mo_sign 24 = .ok (.bastore, 1) := by decide +kernel
theorem d_Mo_sign_25 : decode b_Mo_sign 25 = .ok (.aload_n 0, 1) := by decide +kernel
theorem d_Mo_sign_26 : decode b_Mo_sign 26 = .ok (.dup, 1) := by decide +kernel
theorem d_Mo_sign_27 : decode b_Mo_sign 27 = .ok (.getfield 64, 3) := by decide +kernel
theorem d_Mo_sign_30 : decode b_Mo_sign 30 = .ok (.iconst 1, 1) := by decide +kernel
theorem d_Mo_sign_31 : decode b_Mo_sign 31 = .ok (.iadd, 1) := by decide +kernel
theorem d_Mo_sign_32 : decode b_Mo_sign 32 = .ok (.putfield 64, 3) := by decide +kernel
theorem d_Mo_sign_35 : decode b_Mo_sign 35 = .ok (.return_, 1) := by decide +kernel
theorem d_Mo_look_0 : decode b_Mo_look 0 = .ok (.iload_n 1, 1) := by decide +kernel
theorem d_Mo_look_1 : decode b_Mo_look 1 = .ok (.aload_n 0, 1) := by decide +kernel
theorem d_Mo_look_2 : decode b_Mo_look 2 = .ok (.getfield 64, 3) := by decide +kernel
theorem d_Mo_look_5 : decode b_Mo_look 5 = .ok (.if_icmp .ge 16, 3) := by decide +kernel
theorem d_Mo_look_8 : decode b_Mo_look 8 = .ok (.aload_n 0, 1) := by decide +kernel
theorem d_Mo_look_9 : decode b_Mo_look 9 = .ok (.getfield 7, 3) := by decide +kernel
theorem d_Mo_look_12 : decode b_Mo_look 12 = .ok (.iload_n 1, 1) := by decide +kernel
theorem d_Mo_look_13 : decode b_Mo_look 13 = .ok (.baload, 1) := by decide +kernel
theorem d_Mo_look_14 : decode b_Mo_look 14 = .ok (.sipush 255, 3) := by decide +kernel
theorem d_Mo_look_17 : decode b_Mo_look 17 = .ok (.iand, 1) := by decide +kernel
theorem d_Mo_look_18 : decode b_Mo_look 18 = .ok (.goto 4, 3) := by decide +kernel
theorem d_Mo_look_21 : decode b_Mo_look 21 = .ok (.iconst (-1), 1) := by decide +kernel
theorem d_Mo_look_22 : decode b_Mo_look 22 = .ok (.ireturn, 1) := by decide +kernel
theorem d_Mo_bad_0 : decode b_Mo_bad 0 = .ok (.aload_n 0, 1) := by decide +kernel
theorem d_Mo_bad_1 : decode b_Mo_bad 1 = .ok (.iload_n 1, 1) := by decide +kernel
theorem d_Mo_bad_2 : decode b_Mo_bad 2 = .ok (.putfield 67, 3) := by decide +kernel
theorem d_Mo_bad_5 : decode b_Mo_bad 5 = .ok (.iconst 0, 1) := by decide +kernel
theorem d_Mo_bad_6 : decode b_Mo_bad 6 = .ok (.ireturn, 1) := by decide +kernel
theorem d_Mo_isDigit_0 : decode b_Mo_isDigit 0 = .ok (.iload_n 0, 1) := by decide +kernel
theorem d_Mo_isDigit_1 : decode b_Mo_isDigit 1 = .ok (.bipush 48, 2) := by decide +kernel
theorem d_Mo_isDigit_3 : decode b_Mo_isDigit 3 = .ok (.if_icmp .lt 13, 3) := by decide +kernel
theorem d_Mo_isDigit_6 : decode b_Mo_isDigit 6 = .ok (.iload_n 0, 1) := by decide +kernel
theorem d_Mo_isDigit_7 : decode b_Mo_isDigit 7 = .ok (.bipush 57, 2) := by decide +kernel
theorem d_Mo_isDigit_9 : decode b_Mo_isDigit 9 = .ok (.if_icmp .gt 7, 3) := by decide +kernel
theorem d_Mo_isDigit_12 : decode b_Mo_isDigit 12 = .ok (.iconst 1, 1) := by decide +kernel
theorem d_Mo_isDigit_13 : decode b_Mo_isDigit 13 = .ok (.goto 4, 3) := by decide +kernel
theorem d_Mo_isDigit_16 : decode b_Mo_isDigit 16 = .ok (.iconst 0, 1) := by decide +kernel
theorem d_Mo_isDigit_17 : decode b_Mo_isDigit 17 = .ok (.ireturn, 1) := by decide +kernel
theorem d_Mo_isLetter_0 : decode b_Mo_isLetter 0 = .ok (.iload_n 0, 1) := by decide +kernel
theorem d_Mo_isLetter_1 : decode b_Mo_isLetter 1 = .ok (.bipush 97, 2) := by decide +kernel
theorem d_Mo_isLetter_3 : decode b_Mo_isLetter 3 = .ok (.if_icmp .lt 13, 3) := by decide +kernel
theorem d_Mo_isLetter_6 : decode b_Mo_isLetter 6 = .ok (.iload_n 0, 1) := by decide +kernel
theorem d_Mo_isLetter_7 : decode b_Mo_isLetter 7 = .ok (.bipush 122, 2) := by decide +kernel
theorem d_Mo_isLetter_9 : decode b_Mo_isLetter 9 = .ok (.if_icmp .gt 7, 3) := by decide +kernel
theorem d_Mo_isLetter_12 : decode b_Mo_isLetter 12 = .ok (.iconst 1, 1) := by decide +kernel
theorem d_Mo_isLetter_13 : decode b_Mo_isLetter 13 = .ok (.goto 4, 3) := by decide +kernel
theorem d_Mo_isLetter_16 : decode b_Mo_isLetter 16 = .ok (.iconst 0, 1) := by decide +kernel
theorem d_Mo_isLetter_17 : decode b_Mo_isLetter 17 = .ok (.ireturn, 1) := by decide +kernel
theorem d_Mo_space_0 : decode b_Mo_space 0 = .ok (.aload_n 0, 1) := by decide +kernel
theorem d_Mo_space_1 : decode b_Mo_space 1 = .ok (.aload_n 0, 1) := by decide +kernel
theorem d_Mo_space_2 : decode b_Mo_space 2 = .ok (.getfield 70, 3) := by decide +kernel
theorem d_Mo_space_5 : decode b_Mo_space 5 = .ok (.invokevirtual 73, 3) := by decide +kernel
theorem d_Mo_space_8 : decode b_Mo_space 8 = .ok (.bipush 32, 2) := by decide +kernel
theorem d_Mo_space_10 : decode b_Mo_space 10 = .ok (.if_icmp .eq 12, 3) := by decide +kernel
theorem d_Mo_space_13 : decode b_Mo_space 13 = .ok (.aload_n 0, 1) := by decide +kernel
theorem d_Mo_space_14 : decode b_Mo_space 14 = .ok (.aload_n 0, 1) := by decide +kernel
theorem d_Mo_space_15 : decode b_Mo_space 15 = .ok (.getfield 70, 3) := by decide +kernel
theorem d_Mo_space_18 : decode b_Mo_space 18 = .ok (.invokevirtual 77, 3) := by decide +kernel
theorem d_Mo_space_21 : decode b_Mo_space 21 = .ok (.ireturn, 1) := by decide +kernel
theorem d_Mo_space_22 : decode b_Mo_space 22 = .ok (.aload_n 0, 1) := by decide +kernel
theorem d_Mo_space_23 : decode b_Mo_space 23 = .ok (.dup, 1) := by decide +kernel
theorem d_Mo_space_24 : decode b_Mo_space 24 = .ok (.getfield 70, 3) := by decide +kernel
theorem d_Mo_space_27 : decode b_Mo_space 27 = .ok (.iconst 1, 1) := by decide +kernel
theorem d_Mo_space_28 : decode b_Mo_space 28 = .ok (.iadd, 1) := by decide +kernel
theorem d_Mo_space_29 : decode b_Mo_space 29 = .ok (.putfield 70, 3) := by decide +kernel
theorem d_Mo_space_32 : decode b_Mo_space 32 = .ok (.iconst 1, 1) := by decide +kernel
theorem d_Mo_space_33 : decode b_Mo_space 33 = .ok (.ireturn, 1) := by decide +kernel
theorem d_Mo_word_0 : decode b_Mo_word 0 = .ok (.lconst 0, 1) := by decide +kernel
theorem d_Mo_word_1 : decode b_Mo_word 1 = .ok (.lstore_n 1, 1) := by decide +kernel
theorem d_Mo_word_2 : decode b_Mo_word 2 = .ok (.aload_n 0, 1) := by decide +kernel
theorem d_Mo_word_3 : decode b_Mo_word 3 = .ok (.getfield 70, 3) := by decide +kernel
theorem d_Mo_word_6 : decode b_Mo_word 6 = .ok (.istore_n 3, 1) := by decide +kernel
theorem d_Mo_word_7 : decode b_Mo_word 7 = .ok (.aload_n 0, 1) := by decide +kernel
theorem d_Mo_word_8 : decode b_Mo_word 8 = .ok (.iload_n 3, 1) := by decide +kernel
theorem d_Mo_word_9 : decode b_Mo_word 9 = .ok (.invokevirtual 73, 3) := by decide +kernel
theorem d_Mo_word_12 : decode b_Mo_word 12 = .ok (.invokestatic 81, 3) := by decide +kernel
theorem d_Mo_word_15 : decode b_Mo_word 15 = .ok (.ifCond .eq 53, 3) := by decide +kernel
theorem d_Mo_word_18 : decode b_Mo_word 18 = .ok (.iload_n 3, 1) := by decide +kernel
theorem d_Mo_word_19 : decode b_Mo_word 19 = .ok (.aload_n 0, 1) := by decide +kernel
theorem d_Mo_word_20 : decode b_Mo_word 20 = .ok (.getfield 70, 3) := by decide +kernel
theorem d_Mo_word_23 : decode b_Mo_word 23 = .ok (.isub, 1) := by decide +kernel
theorem d_Mo_word_24 : decode b_Mo_word 24 = .ok (.bipush 9, 2) := by decide +kernel
theorem d_Mo_word_26 : decode b_Mo_word 26 = .ok (.if_icmp .le 9, 3) := by decide +kernel
theorem d_Mo_word_29 : decode b_Mo_word 29 = .ok (.ldc2_w 84, 3) := by decide +kernel
theorem d_Mo_word_32 : decode b_Mo_word 32 = .ok (.goto 29, 3) := by decide +kernel
theorem d_Mo_word_35 : decode b_Mo_word 35 = .ok (.lload_n 1, 1) := by decide +kernel
theorem d_Mo_word_36 : decode b_Mo_word 36 = .ok (.lconst 0, 1) := by decide +kernel
theorem d_Mo_word_37 : decode b_Mo_word 37 = .ok (.lcmp, 1) := by decide +kernel
theorem d_Mo_word_38 : decode b_Mo_word 38 = .ok (.ifCond .ge 7, 3) := by decide +kernel
theorem d_Mo_word_41 : decode b_Mo_word 41 = .ok (.lload_n 1, 1) := by decide +kernel
theorem d_Mo_word_42 : decode b_Mo_word 42 = .ok (.goto 19, 3) := by decide +kernel
theorem d_Mo_word_45 : decode b_Mo_word 45 = .ok (.lload_n 1, 1) := by decide +kernel
theorem d_Mo_word_46 : decode b_Mo_word 46 = .ok (.ldc2_w 86, 3) := by decide +kernel
theorem d_Mo_word_49 : decode b_Mo_word 49 = .ok (.lmul, 1) := by decide +kernel
theorem d_Mo_word_50 : decode b_Mo_word 50 = .ok (.aload_n 0, 1) := by decide +kernel
theorem d_Mo_word_51 : decode b_Mo_word 51 = .ok (.iload_n 3, 1) := by decide +kernel
theorem d_Mo_word_52 : decode b_Mo_word 52 = .ok (.invokevirtual 73, 3) := by decide +kernel
theorem d_Mo_word_55 : decode b_Mo_word 55 = .ok (.i2l, 1) := by decide +kernel
theorem d_Mo_word_56 : decode b_Mo_word 56 = .ok (.ladd, 1) := by decide +kernel
theorem d_Mo_word_57 : decode b_Mo_word 57 = .ok (.ldc2_w 88, 3) := by decide +kernel
theorem d_Mo_word_60 : decode b_Mo_word 60 = .ok (.lsub, 1) := by decide +kernel
theorem d_Mo_word_61 : decode b_Mo_word 61 = .ok (.lstore_n 1, 1) := by decide +kernel
theorem d_Mo_word_62 : decode b_Mo_word 62 = .ok (.iinc 3 1, 3) := by decide +kernel
theorem d_Mo_word_65 : decode b_Mo_word 65 = .ok (.goto (-58), 3) := by decide +kernel
theorem d_Mo_word_68 : decode b_Mo_word 68 = .ok (.lload_n 1, 1) := by decide +kernel
theorem d_Mo_word_69 : decode b_Mo_word 69 = .ok (.lreturn, 1) := by decide +kernel
theorem d_Mo_pass_0 : decode b_Mo_pass 0 = .ok (.aload_n 0, 1) := by decide +kernel
theorem d_Mo_pass_1 : decode b_Mo_pass 1 = .ok (.aload_n 0, 1) := by decide +kernel
theorem d_Mo_pass_2 : decode b_Mo_pass 2 = .ok (.getfield 70, 3) := by decide +kernel
theorem d_Mo_pass_5 : decode b_Mo_pass 5 = .ok (.invokevirtual 73, 3) := by decide +kernel
theorem d_Mo_pass_8 : decode b_Mo_pass 8 = .ok (.invokestatic 81, 3) := by decide +kernel
theorem d_Mo_pass_11 : decode b_Mo_pass 11 = .ok (.ifCond .eq 16, 3) := by decide +kernel
theorem d_Mo_pass_14 : decode b_Mo_pass 14 = .ok (.aload_n 0, 1) := by decide +kernel
theorem d_Mo_pass_15 : decode b_Mo_pass 15 = .ok (.dup, 1) := by decide +kernel
theorem d_Mo_pass_16 : decode b_Mo_pass 16 = .ok (.getfield 70, 3) := by decide +kernel
theorem d_Mo_pass_19 : decode b_Mo_pass 19 = .ok (.iconst 1, 1) := by decide +kernel
theorem d_Mo_pass_20 : decode b_Mo_pass 20 = .ok (.iadd, 1) := by decide +kernel
theorem d_Mo_pass_21 : decode b_Mo_pass 21 = .ok (.putfield 70, 3) := by decide +kernel
theorem d_Mo_pass_24 : decode b_Mo_pass 24 = .ok (.goto (-24), 3) := by decide +kernel
theorem d_Mo_pass_27 : decode b_Mo_pass 27 = .ok (.return_, 1) := by decide +kernel
theorem d_Mo_number_0 : decode b_Mo_number 0 = .ok (.aload_n 0, 1) := by decide +kernel
theorem d_Mo_number_1 : decode b_Mo_number 1 = .ok (.getfield 70, 3) := by decide +kernel
theorem d_Mo_number_4 : decode b_Mo_number 4 = .ok (.istore_n 3, 1) := by decide +kernel
theorem d_Mo_number_5 : decode b_Mo_number 5 = .ok (.iconst 0, 1) := by decide +kernel
theorem d_Mo_number_6 : decode b_Mo_number 6 = .ok (.istore 4, 2) := by decide +kernel
theorem d_Mo_number_8 : decode b_Mo_number 8 = .ok (.aload_n 0, 1) := by decide +kernel
theorem d_Mo_number_9 : decode b_Mo_number 9 = .ok (.aload_n 0, 1) := by decide +kernel
theorem d_Mo_number_10 : decode b_Mo_number 10 = .ok (.getfield 70, 3) := by decide +kernel
theorem d_Mo_number_13 : decode b_Mo_number 13 = .ok (.invokevirtual 73, 3) := by decide +kernel
theorem d_Mo_number_16 : decode b_Mo_number 16 = .ok (.invokestatic 90, 3) := by decide +kernel
theorem d_Mo_number_19 : decode b_Mo_number 19 = .ok (.ifCond .eq 51, 3) := by decide +kernel
theorem d_Mo_number_22 : decode b_Mo_number 22 = .ok (.aload_n 0, 1) := by decide +kernel
theorem d_Mo_number_23 : decode b_Mo_number 23 = .ok (.getfield 70, 3) := by decide +kernel
theorem d_Mo_number_26 : decode b_Mo_number 26 = .ok (.iload_n 3, 1) := by decide +kernel
theorem d_Mo_number_27 : decode b_Mo_number 27 = .ok (.isub, 1) := by decide +kernel
theorem d_Mo_number_28 : decode b_Mo_number 28 = .ok (.iconst 2, 1) := by decide +kernel
theorem d_Mo_number_29 : decode b_Mo_number 29 = .ok (.if_icmp .le 9, 3) := by decide +kernel
theorem d_Mo_number_32 : decode b_Mo_number 32 = .ok (.sipush 999, 3) := by decide +kernel
theorem d_Mo_number_35 : decode b_Mo_number 35 = .ok (.goto 20, 3) := by decide +kernel
theorem d_Mo_number_38 : decode b_Mo_number 38 = .ok (.bipush 10, 2) := by decide +kernel
theorem d_Mo_number_40 : decode b_Mo_number 40 = .ok (.iload 4, 2) := by decide +kernel
theorem d_Mo_number_42 : decode b_Mo_number 42 = .ok (.imul, 1) := by decide +kernel
theorem d_Mo_number_43 : decode b_Mo_number 43 = .ok (.aload_n 0, 1) := by decide +kernel
theorem d_Mo_number_44 : decode b_Mo_number 44 = .ok (.aload_n 0, 1) := by decide +kernel
theorem d_Mo_number_45 : decode b_Mo_number 45 = .ok (.getfield 70, 3) := by decide +kernel
theorem d_Mo_number_48 : decode b_Mo_number 48 = .ok (.invokevirtual 73, 3) := by decide +kernel
theorem d_Mo_number_51 : decode b_Mo_number 51 = .ok (.iadd, 1) := by decide +kernel
theorem d_Mo_number_52 : decode b_Mo_number 52 = .ok (.bipush 48, 2) := by decide +kernel
theorem d_Mo_number_54 : decode b_Mo_number 54 = .ok (.isub, 1) := by decide +kernel
theorem d_Mo_number_55 : decode b_Mo_number 55 = .ok (.istore 4, 2) := by decide +kernel
theorem d_Mo_number_57 : decode b_Mo_number 57 = .ok (.aload_n 0, 1) := by decide +kernel
theorem d_Mo_number_58 : decode b_Mo_number 58 = .ok (.dup, 1) := by decide +kernel
theorem d_Mo_number_59 : decode b_Mo_number 59 = .ok (.getfield 70, 3) := by decide +kernel
theorem d_Mo_number_62 : decode b_Mo_number 62 = .ok (.iconst 1, 1) := by decide +kernel
theorem d_Mo_number_63 : decode b_Mo_number 63 = .ok (.iadd, 1) := by decide +kernel
theorem d_Mo_number_64 : decode b_Mo_number 64 = .ok (.putfield 70, 3) := by decide +kernel
theorem d_Mo_number_67 : decode b_Mo_number 67 = .ok (.goto (-59), 3) := by decide +kernel
theorem d_Mo_number_70 : decode b_Mo_number 70 = .ok (.aload_n 0, 1) := by decide +kernel
theorem d_Mo_number_71 : decode b_Mo_number 71 = .ok (.iload_n 3, 1) := by decide +kernel
theorem d_Mo_number_72 : decode b_Mo_number 72 = .ok (.invokevirtual 73, 3) := by decide +kernel
theorem d_Mo_number_75 : decode b_Mo_number 75 = .ok (.bipush 48, 2) := by decide +kernel
theorem d_Mo_number_77 : decode b_Mo_number 77 = .ok (.if_icmp .ne 17, 3) := by decide +kernel
theorem d_Mo_number_80 : decode b_Mo_number 80 = .ok (.aload_n 0, 1) := by decide +kernel
theorem d_Mo_number_81 : decode b_Mo_number 81 = .ok (.getfield 70, 3) := by decide +kernel
theorem d_Mo_number_84 : decode b_Mo_number 84 = .ok (.iload_n 3, 1) := by decide +kernel
theorem d_Mo_number_85 : decode b_Mo_number 85 = .ok (.isub, 1) := by decide +kernel
theorem d_Mo_number_86 : decode b_Mo_number 86 = .ok (.iconst 1, 1) := by decide +kernel
theorem d_Mo_number_87 : decode b_Mo_number 87 = .ok (.if_icmp .le 7, 3) := by decide +kernel
theorem d_Mo_number_90 : decode b_Mo_number 90 = .ok (.iconst 1, 1) := by decide +kernel
theorem d_Mo_number_91 : decode b_Mo_number 91 = .ok (.goto 4, 3) := by decide +kernel
theorem d_Mo_number_94 : decode b_Mo_number 94 = .ok (.iconst 0, 1) := by decide +kernel
theorem d_Mo_number_95 : decode b_Mo_number 95 = .ok (.istore 5, 2) := by decide +kernel
theorem d_Mo_number_97 : decode b_Mo_number 97 = .ok (.aload_n 0, 1) := by decide +kernel
theorem d_Mo_number_98 : decode b_Mo_number 98 = .ok (.getfield 70, 3) := by decide +kernel
theorem d_Mo_number_101 : decode b_Mo_number 101 = .ok (.iload_n 3, 1) := by decide +kernel
theorem d_Mo_number_102 : decode b_Mo_number 102 = .ok (.if_icmp .eq 30, 3) := by decide +kernel
theorem d_Mo_number_105 : decode b_Mo_number 105 = .ok (.iload 5, 2) := by decide +kernel
theorem d_Mo_number_107 : decode b_Mo_number 107 = .ok (.ifCond .ne 25, 3) := by decide +kernel
theorem d_Mo_number_110 : decode b_Mo_number 110 = .ok (.aload_n 0, 1) := by decide +kernel
theorem d_Mo_number_111 : decode b_Mo_number 111 = .ok (.getfield 70, 3) := by decide +kernel
theorem d_Mo_number_114 : decode b_Mo_number 114 = .ok (.iload_n 3, 1) := by decide +kernel
theorem d_Mo_number_115 : decode b_Mo_number 115 = .ok (.isub, 1) := by decide +kernel
theorem d_Mo_number_116 : decode b_Mo_number 116 = .ok (.iconst 2, 1) := by decide +kernel
theorem d_Mo_number_117 : decode b_Mo_number 117 = .ok (.if_icmp .gt 15, 3) := by decide +kernel
theorem d_Mo_number_120 : decode b_Mo_number 120 = .ok (.iload 4, 2) := by decide +kernel
theorem d_Mo_number_122 : decode b_Mo_number 122 = .ok (.iload_n 1, 1) := by decide +kernel
theorem d_Mo_number_123 : decode b_Mo_number 123 = .ok (.if_icmp .lt 9, 3) := by decide +kernel
theorem d_Mo_number_126 : decode b_Mo_number 126 = .ok (.iload 4, 2) := by decide +kernel
theorem d_Mo_number_128 : decode b_Mo_number 128 = .ok (.iload_n 2, 1) := by decide +kernel
theorem d_Mo_number_129 : decode b_Mo_number 129 = .ok (.if_icmp .le 10, 3) := by decide +kernel
theorem d_Mo_number_132 : decode b_Mo_number 132 = .ok (.aload_n 0, 1) := by decide +kernel
theorem d_Mo_number_133 : decode b_Mo_number 133 = .ok (.iload_n 3, 1) := by decide +kernel
theorem d_Mo_number_134 : decode b_Mo_number 134 = .ok (.putfield 67, 3) := by decide +kernel
theorem d_Mo_number_137 : decode b_Mo_number 137 = .ok (.iconst (-1), 1) := by decide +kernel
theorem d_Mo_number_138 : decode b_Mo_number 138 = .ok (.ireturn, 1) := by decide +kernel
theorem d_Mo_number_139 : decode b_Mo_number 139 = .ok (.iload 4, 2) := by decide +kernel
theorem d_Mo_number_141 : decode b_Mo_number 141 = .ok (.ireturn, 1) := by decide +kernel
theorem d_Mo_every_0 : decode b_Mo_every 0 = .ok (.aload_n 0, 1) := by decide +kernel
theorem d_Mo_every_1 : decode b_Mo_every 1 = .ok (.invokevirtual 93, 3) := by decide +kernel
theorem d_Mo_every_4 : decode b_Mo_every 4 = .ok (.ldc2_w 97, 3) := by decide +kernel
theorem d_Mo_every_7 : decode b_Mo_every 7 = .ok (.lcmp, 1) := by decide +kernel
theorem d_Mo_every_8 : decode b_Mo_every 8 = .ok (.ifCond .eq 12, 3) := by decide +kernel
theorem d_Mo_every_11 : decode b_Mo_every 11 = .ok (.aload_n 0, 1) := by decide +kernel
theorem d_Mo_every_12 : decode b_Mo_every 12 = .ok (.aload_n 0, 1) := by decide +kernel
theorem d_Mo_every_13 : decode b_Mo_every 13 = .ok (.getfield 70, 3) := by decide +kernel
theorem d_Mo_every_16 : decode b_Mo_every 16 = .ok (.invokevirtual 77, 3) := by decide +kernel
theorem d_Mo_every_19 : decode b_Mo_every 19 = .ok (.ireturn, 1) := by decide +kernel
theorem d_Mo_every_20 : decode b_Mo_every 20 = .ok (.aload_n 0, 1) := by decide +kernel
theorem d_Mo_every_21 : decode b_Mo_every 21 = .ok (.invokevirtual 99, 3) := by decide +kernel
theorem d_Mo_every_24 : decode b_Mo_every 24 = .ok (.aload_n 0, 1) := by decide +kernel
theorem d_Mo_every_25 : decode b_Mo_every 25 = .ok (.invokevirtual 102, 3) := by decide +kernel
theorem d_Mo_every_28 : decode b_Mo_every 28 = .ok (.ifCond .ne 5, 3) := by decide +kernel
theorem d_Mo_every_31 : decode b_Mo_every 31 = .ok (.iconst 0, 1) := by decide +kernel
theorem d_Mo_every_32 : decode b_Mo_every 32 = .ok (.ireturn, 1) := by decide +kernel
theorem d_Mo_every_33 : decode b_Mo_every 33 = .ok (.aload_n 0, 1) := by decide +kernel
theorem d_Mo_every_34 : decode b_Mo_every 34 = .ok (.iconst 1, 1) := by decide +kernel
theorem d_Mo_every_35 : decode b_Mo_every 35 = .ok (.bipush 99, 2) := by decide +kernel
theorem d_Mo_every_37 : decode b_Mo_every 37 = .ok (.invokevirtual 106, 3) := by decide +kernel
theorem d_Mo_every_40 : decode b_Mo_every 40 = .ok (.istore_n 2, 1) := by decide +kernel
theorem d_Mo_every_41 : decode b_Mo_every 41 = .ok (.iload_n 2, 1) := by decide +kernel
theorem d_Mo_every_42 : decode b_Mo_every 42 = .ok (.ifCond .lt 10, 3) := by decide +kernel
theorem d_Mo_every_45 : decode b_Mo_every 45 = .ok (.aload_n 0, 1) := by decide +kernel
theorem d_Mo_every_46 : decode b_Mo_every 46 = .ok (.invokevirtual 102, 3) := by decide +kernel
theorem d_Mo_every_49 : decode b_Mo_every 49 = .ok (.ifCond .ne 5, 3) := by decide +kernel
theorem d_Mo_every_52 : decode b_Mo_every 52 = .ok (.iconst 0, 1) := by decide +kernel
theorem d_Mo_every_53 : decode b_Mo_every 53 = .ok (.ireturn, 1) := by decide +kernel
theorem d_Mo_every_54 : decode b_Mo_every 54 = .ok (.aload_n 0, 1) := by decide +kernel
theorem d_Mo_every_55 : decode b_Mo_every 55 = .ok (.invokevirtual 93, 3) := by decide +kernel
theorem d_Mo_every_58 : decode b_Mo_every 58 = .ok (.lstore_n 3, 1) := by decide +kernel
theorem d_Mo_every_59 : decode b_Mo_every 59 = .ok (.lload_n 3, 1) := by decide +kernel
theorem d_Mo_every_60 : decode b_Mo_every 60 = .ok (.ldc2_w 110, 3) := by decide +kernel
theorem d_Mo_every_63 : decode b_Mo_every 63 = .ok (.lcmp, 1) := by decide +kernel
theorem d_Mo_every_64 : decode b_Mo_every 64 = .ok (.ifCond .ne 7, 3) := by decide +kernel
theorem d_Mo_every_67 : decode b_Mo_every 67 = .ok (.iconst 1, 1) := by decide +kernel
theorem d_Mo_every_68 : decode b_Mo_every 68 = .ok (.goto 30, 3) := by decide +kernel
theorem d_Mo_every_71 : decode b_Mo_every 71 = .ok (.lload_n 3, 1) := by decide +kernel
theorem d_Mo_every_72 : decode b_Mo_every 72 = .ok (.ldc2_w 112, 3) := by decide +kernel
theorem d_Mo_every_75 : decode b_Mo_every 75 = .ok (.lcmp, 1) := by decide +kernel
theorem d_Mo_every_76 : decode b_Mo_every 76 = .ok (.ifCond .ne 8, 3) := by decide +kernel
theorem d_Mo_every_79 : decode b_Mo_every 79 = .ok (.bipush 7, 2) := by decide +kernel
theorem d_Mo_every_81 : decode b_Mo_every 81 = .ok (.goto 17, 3) := by decide +kernel
theorem d_Mo_every_84 : decode b_Mo_every 84 = .ok (.lload_n 3, 1) := by decide +kernel
theorem d_Mo_every_85 : decode b_Mo_every 85 = .ok (.ldc2_w 114, 3) := by decide +kernel
theorem d_Mo_every_88 : decode b_Mo_every 88 = .ok (.lcmp, 1) := by decide +kernel
theorem d_Mo_every_89 : decode b_Mo_every 89 = .ok (.ifCond .ne 8, 3) := by decide +kernel
theorem d_Mo_every_92 : decode b_Mo_every 92 = .ok (.bipush 30, 2) := by decide +kernel
theorem d_Mo_every_94 : decode b_Mo_every 94 = .ok (.goto 4, 3) := by decide +kernel
theorem d_Mo_every_97 : decode b_Mo_every 97 = .ok (.iconst 0, 1) := by decide +kernel
theorem d_Mo_every_98 : decode b_Mo_every 98 = .ok (.istore 5, 2) := by decide +kernel
theorem d_Mo_every_100 : decode b_Mo_every 100 = .ok (.iload 5, 2) := by decide +kernel
theorem d_Mo_every_102 : decode b_Mo_every 102 = .ok (.ifCond .ne 12, 3) := by decide +kernel
theorem d_Mo_every_105 : decode b_Mo_every 105 = .ok (.aload_n 0, 1) := by decide +kernel
theorem d_Mo_every_106 : decode b_Mo_every 106 = .ok (.aload_n 0, 1) := by decide +kernel
theorem d_Mo_every_107 : decode b_Mo_every 107 = .ok (.getfield 70, 3) := by decide +kernel
theorem d_Mo_every_110 : decode b_Mo_every 110 = .ok (.invokevirtual 77, 3) := by decide +kernel
theorem d_Mo_every_113 : decode b_Mo_every 113 = .ok (.ireturn, 1) := by decide +kernel
theorem d_Mo_every_114 : decode b_Mo_every 114 = .ok (.aload_n 0, 1) := by decide +kernel
theorem d_Mo_every_115 : decode b_Mo_every 115 = .ok (.invokevirtual 99, 3) := by decide +kernel
theorem d_Mo_every_118 : decode b_Mo_every 118 = .ok (.aload_n 0, 1) := by decide +kernel
theorem d_Mo_every_119 : decode b_Mo_every 119 = .ok (.getfield 13, 3) := by decide +kernel
theorem d_Mo_every_122 : decode b_Mo_every 122 = .ok (.iload_n 1, 1) := by decide +kernel
theorem d_Mo_every_123 : decode b_Mo_every 123 = .ok (.iload_n 2, 1) := by decide +kernel
theorem d_Mo_every_124 : decode b_Mo_every 124 = .ok (.iload 5, 2) := by decide +kernel
theorem d_Mo_every_126 : decode b_Mo_every 126 = .ok (.imul, 1) := by decide +kernel
theorem d_Mo_every_127 : decode b_Mo_every 127 = .ok (.iastore, 1) := by decide +kernel
theorem d_Mo_every_128 : decode b_Mo_every 128 = .ok (.iconst 1, 1) := by decide +kernel
theorem d_Mo_every_129 : decode b_Mo_every 129 = .ok (.ireturn, 1) := by decide +kernel
theorem d_Mo_skip_0 : decode b_Mo_skip 0 = .ok (.iconst (-1), 1) := by decide +kernel
theorem d_Mo_skip_1 : decode b_Mo_skip 1 = .ok (.istore_n 2, 1) := by decide +kernel
theorem d_Mo_skip_2 : decode b_Mo_skip 2 = .ok (.iconst 1, 1) := by decide +kernel
theorem d_Mo_skip_3 : decode b_Mo_skip 3 = .ok (.istore_n 3, 1) := by decide +kernel
theorem d_Mo_skip_4 : decode b_Mo_skip 4 = .ok (.iload_n 3, 1) := by decide +kernel
theorem d_Mo_skip_5 : decode b_Mo_skip 5 = .ok (.ifCond .eq 98, 3) := by decide +kernel
theorem d_Mo_skip_8 : decode b_Mo_skip 8 = .ok (.aload_n 0, 1) := by decide +kernel
theorem d_Mo_skip_9 : decode b_Mo_skip 9 = .ok (.getfield 70, 3) := by decide +kernel
theorem d_Mo_skip_12 : decode b_Mo_skip 12 = .ok (.istore 4, 2) := by decide +kernel
theorem d_Mo_skip_14 : decode b_Mo_skip 14 = .ok (.aload_n 0, 1) := by decide +kernel
theorem d_Mo_skip_15 : decode b_Mo_skip 15 = .ok (.iconst 0, 1) := by decide +kernel
theorem d_Mo_skip_16 : decode b_Mo_skip 16 = .ok (.bipush 11, 2) := by decide +kernel
theorem d_Mo_skip_18 : decode b_Mo_skip 18 = .ok (.invokevirtual 106, 3) := by decide +kernel
theorem d_Mo_skip_21 : decode b_Mo_skip 21 = .ok (.istore 5, 2) := by decide +kernel
theorem d_Mo_skip_23 : decode b_Mo_skip 23 = .ok (.iload 5, 2) := by decide +kernel
theorem d_Mo_skip_25 : decode b_Mo_skip 25 = .ok (.ifCond .ge 5, 3) := by decide +kernel
theorem d_Mo_skip_28 : decode b_Mo_skip 28 = .ok (.iconst 0, 1) := by decide +kernel
theorem d_Mo_skip_29 : decode b_Mo_skip 29 = .ok (.ireturn, 1) := by decide +kernel
theorem d_Mo_skip_30 : decode b_Mo_skip 30 = .ok (.iload 5, 2) := by decide +kernel
theorem d_Mo_skip_32 : decode b_Mo_skip 32 = .ok (.iload_n 2, 1) := by decide +kernel
theorem d_Mo_skip_33 : decode b_Mo_skip 33 = .ok (.if_icmp .gt 10, 3) := by decide +kernel
theorem d_Mo_skip_36 : decode b_Mo_skip 36 = .ok (.aload_n 0, 1) := by decide +kernel
theorem d_Mo_skip_37 : decode b_Mo_skip 37 = .ok (.iload 4, 2) := by decide +kernel
theorem d_Mo_skip_39 : decode b_Mo_skip 39 = .ok (.invokevirtual 77, 3) := by decide +kernel
theorem d_Mo_skip_42 : decode b_Mo_skip 42 = .ok (.ireturn, 1) := by decide +kernel
theorem d_Mo_skip_43 : decode b_Mo_skip 43 = .ok (.aload_n 0, 1) := by decide +kernel
theorem d_Mo_skip_44 : decode b_Mo_skip 44 = .ok (.getfield 17, 3) := by decide +kernel
theorem d_Mo_skip_47 : decode b_Mo_skip 47 = .ok (.iload_n 1, 1) := by decide +kernel
theorem d_Mo_skip_48 : decode b_Mo_skip 48 = .ok (.aload_n 0, 1) := by decide +kernel
theorem d_Mo_skip_49 : decode b_Mo_skip 49 = .ok (.getfield 17, 3) := by decide +kernel
theorem d_Mo_skip_52 : decode b_Mo_skip 52 = .ok (.iload_n 1, 1) := by decide +kernel
theorem d_Mo_skip_53 : decode b_Mo_skip 53 = .ok (.iaload, 1) := by decide +kernel
theorem d_Mo_skip_54 : decode b_Mo_skip 54 = .ok (.iconst 1, 1) := by decide +kernel
theorem d_Mo_skip_55 : decode b_Mo_skip 55 = .ok (.iload 5, 2) := by decide +kernel
theorem d_Mo_skip_57 : decode b_Mo_skip 57 = .ok (.ishl, 1) := by decide +kernel
theorem d_Mo_skip_58 : decode b_Mo_skip 58 = .ok (.ior, 1) := by decide +kernel
theorem d_Mo_skip_59 : decode b_Mo_skip 59 = .ok (.iastore, 1) := by decide +kernel
theorem d_Mo_skip_60 : decode b_Mo_skip 60 = .ok (.iload 5, 2) := by decide +kernel
theorem d_Mo_skip_62 : decode b_Mo_skip 62 = .ok (.istore_n 2, 1) := by decide +kernel
theorem d_Mo_skip_63 : decode b_Mo_skip 63 = .ok (.aload_n 0, 1) := by decide +kernel
theorem d_Mo_skip_64 : decode b_Mo_skip 64 = .ok (.aload_n 0, 1) := by decide +kernel
theorem d_Mo_skip_65 : decode b_Mo_skip 65 = .ok (.getfield 70, 3) := by decide +kernel
theorem d_Mo_skip_68 : decode b_Mo_skip 68 = .ok (.invokevirtual 73, 3) := by decide +kernel
theorem d_Mo_skip_71 : decode b_Mo_skip 71 = .ok (.bipush 44, 2) := by decide +kernel
theorem d_Mo_skip_73 : decode b_Mo_skip 73 = .ok (.if_icmp .ne 7, 3) := by decide +kernel
theorem d_Mo_skip_76 : decode b_Mo_skip 76 = .ok (.iconst 1, 1) := by decide +kernel
theorem d_Mo_skip_77 : decode b_Mo_skip 77 = .ok (.goto 4, 3) := by decide +kernel
theorem d_Mo_skip_80 : decode b_Mo_skip 80 = .ok (.iconst 0, 1) := by decide +kernel
theorem d_Mo_skip_81 : decode b_Mo_skip 81 = .ok (.istore_n 3, 1) := by decide +kernel
theorem d_Mo_skip_82 : decode b_Mo_skip 82 = .ok (.aload_n 0, 1) := by decide +kernel
theorem d_Mo_skip_83 : decode b_Mo_skip 83 = .ok (.dup, 1) := by decide +kernel
theorem d_Mo_skip_84 : decode b_Mo_skip 84 = .ok (.getfield 70, 3) := by decide +kernel
theorem d_Mo_skip_87 : decode b_Mo_skip 87 = .ok (.iload_n 3, 1) := by decide +kernel
theorem d_Mo_skip_88 : decode b_Mo_skip 88 = .ok (.ifCond .eq 7, 3) := by decide +kernel
theorem d_Mo_skip_91 : decode b_Mo_skip 91 = .ok (.iconst 1, 1) := by decide +kernel
theorem d_Mo_skip_92 : decode b_Mo_skip 92 = .ok (.goto 4, 3) := by decide +kernel
theorem d_Mo_skip_95 : decode b_Mo_skip 95 = .ok (.iconst 0, 1) := by decide +kernel
theorem d_Mo_skip_96 : decode b_Mo_skip 96 = .ok (.iadd, 1) := by decide +kernel
theorem d_Mo_skip_97 : decode b_Mo_skip 97 = .ok (.putfield 70, 3) := by decide +kernel
theorem d_Mo_skip_100 : decode b_Mo_skip 100 = .ok (.goto (-96), 3) := by decide +kernel
theorem d_Mo_skip_103 : decode b_Mo_skip 103 = .ok (.iconst 1, 1) := by decide +kernel
theorem d_Mo_skip_104 : decode b_Mo_skip 104 = .ok (.ireturn, 1) := by decide +kernel
theorem d_Mo_reads_0 : decode b_Mo_reads 0 = .ok (.aload_n 0, 1) := by decide +kernel
theorem d_Mo_reads_1 : decode b_Mo_reads 1 = .ok (.getfield 17, 3) := by decide +kernel
theorem d_Mo_reads_4 : decode b_Mo_reads 4 = .ok (.iload_n 1, 1) := by decide +kernel
theorem d_Mo_reads_5 : decode b_Mo_reads 5 = .ok (.iconst 0, 1) := by decide +kernel
theorem d_Mo_reads_6 : decode b_Mo_reads 6 = .ok (.iastore, 1) := by decide +kernel
theorem d_Mo_reads_7 : decode b_Mo_reads 7 = .ok (.aload_n 0, 1) := by decide +kernel
theorem d_Mo_reads_8 : decode b_Mo_reads 8 = .ok (.getfield 20, 3) := by decide +kernel
theorem d_Mo_reads_11 : decode b_Mo_reads 11 = .ok (.iload_n 1, 1) := by decide +kernel
theorem d_Mo_reads_12 : decode b_Mo_reads 12 = .ok (.iconst 0, 1) := by decide +kernel
theorem d_Mo_reads_13 : decode b_Mo_reads 13 = .ok (.iastore, 1) := by decide +kernel
theorem d_Mo_reads_14 : decode b_Mo_reads 14 = .ok (.aload_n 0, 1) := by decide +kernel
theorem d_Mo_reads_15 : decode b_Mo_reads 15 = .ok (.getfield 23, 3) := by decide +kernel
theorem d_Mo_reads_18 : decode b_Mo_reads 18 = .ok (.iload_n 1, 1) := by decide +kernel
theorem d_Mo_reads_19 : decode b_Mo_reads 19 = .ok (.iconst 0, 1) := by decide +kernel
theorem d_Mo_reads_20 : decode b_Mo_reads 20 = .ok (.iastore, 1) := by decide +kernel
theorem d_Mo_reads_21 : decode b_Mo_reads 21 = .ok (.aload_n 0, 1) := by decide +kernel
theorem d_Mo_reads_22 : decode b_Mo_reads 22 = .ok (.getfield 26, 3) := by decide +kernel
theorem d_Mo_reads_25 : decode b_Mo_reads 25 = .ok (.iload_n 1, 1) := by decide +kernel
theorem d_Mo_reads_26 : decode b_Mo_reads 26 = .ok (.iconst 0, 1) := by decide +kernel
theorem d_Mo_reads_27 : decode b_Mo_reads 27 = .ok (.bastore, 1) := by decide +kernel
theorem d_Mo_reads_28 : decode b_Mo_reads 28 = .ok (.aload_n 0, 1) := by decide +kernel
theorem d_Mo_reads_29 : decode b_Mo_reads 29 = .ok (.iconst 0, 1) := by decide +kernel
theorem d_Mo_reads_30 : decode b_Mo_reads 30 = .ok (.putfield 70, 3) := by decide +kernel
theorem d_Mo_reads_33 : decode b_Mo_reads 33 = .ok (.aload_n 0, 1) := by decide +kernel
theorem d_Mo_reads_34 : decode b_Mo_reads 34 = .ok (.iload_n 1, 1) := by decide +kernel
theorem d_Mo_reads_35 : decode b_Mo_reads 35 = .ok (.invokevirtual 116, 3) := by decide +kernel
theorem d_Mo_reads_38 : decode b_Mo_reads 38 = .ok (.ifCond .ne 5, 3) := by decide +kernel
theorem d_Mo_reads_41 : decode b_Mo_reads 41 = .ok (.iconst 0, 1) := by decide +kernel
theorem d_Mo_reads_42 : decode b_Mo_reads 42 = .ok (.ireturn, 1) := by decide +kernel
theorem d_Mo_reads_43 : decode b_Mo_reads 43 = .ok (.iconst 0, 1) := by decide +kernel
theorem d_Mo_reads_44 : decode b_Mo_reads 44 = .ok (.istore_n 2, 1) := by decide +kernel
theorem d_Mo_reads_45 : decode b_Mo_reads 45 = .ok (.aload_n 0, 1) := by decide +kernel
theorem d_Mo_reads_46 : decode b_Mo_reads 46 = .ok (.getfield 70, 3) := by decide +kernel
theorem d_Mo_reads_49 : decode b_Mo_reads 49 = .ok (.aload_n 0, 1) := by decide +kernel
theorem d_Mo_reads_50 : decode b_Mo_reads 50 = .ok (.getfield 64, 3) := by decide +kernel
theorem d_Mo_reads_53 : decode b_Mo_reads 53 = .ok (.if_icmp .ge 196, 3) := by decide +kernel
theorem d_Mo_reads_56 : decode b_Mo_reads 56 = .ok (.aload_n 0, 1) := by decide +kernel
theorem d_Mo_reads_57 : decode b_Mo_reads 57 = .ok (.invokevirtual 102, 3) := by decide +kernel
theorem d_Mo_reads_60 : decode b_Mo_reads 60 = .ok (.ifCond .ne 5, 3) := by decide +kernel
theorem d_Mo_reads_63 : decode b_Mo_reads 63 = .ok (.iconst 0, 1) := by decide +kernel
theorem d_Mo_reads_64 : decode b_Mo_reads 64 = .ok (.ireturn, 1) := by decide +kernel
theorem d_Mo_reads_65 : decode b_Mo_reads 65 = .ok (.aload_n 0, 1) := by decide +kernel
theorem d_Mo_reads_66 : decode b_Mo_reads 66 = .ok (.invokevirtual 93, 3) := by decide +kernel
theorem d_Mo_reads_69 : decode b_Mo_reads 69 = .ok (.lstore_n 3, 1) := by decide +kernel
theorem d_Mo_reads_70 : decode b_Mo_reads 70 = .ok (.lload_n 3, 1) := by decide +kernel
theorem d_Mo_reads_71 : decode b_Mo_reads 71 = .ok (.ldc2_w 119, 3) := by decide +kernel
theorem d_Mo_reads_74 : decode b_Mo_reads 74 = .ok (.lcmp, 1) := by decide +kernel
theorem d_Mo_reads_75 : decode b_Mo_reads 75 = .ok (.ifCond .ne 7, 3) := by decide +kernel
theorem d_Mo_reads_78 : decode b_Mo_reads 78 = .ok (.iconst 1, 1) := by decide +kernel
theorem d_Mo_reads_79 : decode b_Mo_reads 79 = .ok (.goto 40, 3) := by decide +kernel
theorem d_Mo_reads_82 : decode b_Mo_reads 82 = .ok (.lload_n 3, 1) := by decide +kernel
theorem d_Mo_reads_83 : decode b_Mo_reads 83 = .ok (.ldc2_w 121, 3) := by decide +kernel
theorem d_Mo_reads_86 : decode b_Mo_reads 86 = .ok (.lcmp, 1) := by decide +kernel
theorem d_Mo_reads_87 : decode b_Mo_reads 87 = .ok (.ifCond .ne 7, 3) := by decide +kernel
theorem d_Mo_reads_90 : decode b_Mo_reads 90 = .ok (.iconst 2, 1) := by decide +kernel
theorem d_Mo_reads_91 : decode b_Mo_reads 91 = .ok (.goto 28, 3) := by decide +kernel
theorem d_Mo_reads_94 : decode b_Mo_reads 94 = .ok (.lload_n 3, 1) := by decide +kernel
theorem d_Mo_reads_95 : decode b_Mo_reads 95 = .ok (.ldc2_w 123, 3) := by decide +kernel
theorem d_Mo_reads_98 : decode b_Mo_reads 98 = .ok (.lcmp, 1) := by decide +kernel
theorem d_Mo_reads_99 : decode b_Mo_reads 99 = .ok (.ifCond .ne 7, 3) := by decide +kernel
theorem d_Mo_reads_102 : decode b_Mo_reads 102 = .ok (.iconst 3, 1) := by decide +kernel
theorem d_Mo_reads_103 : decode b_Mo_reads 103 = .ok (.goto 16, 3) := by decide +kernel
theorem d_Mo_reads_106 : decode b_Mo_reads 106 = .ok (.lload_n 3, 1) := by decide +kernel
theorem d_Mo_reads_107 : decode b_Mo_reads 107 = .ok (.ldc2_w 125, 3) := by decide +kernel
theorem d_Mo_reads_110 : decode b_Mo_reads 110 = .ok (.lcmp, 1) := by decide +kernel
theorem d_Mo_reads_111 : decode b_Mo_reads 111 = .ok (.ifCond .ne 7, 3) := by decide +kernel
theorem d_Mo_reads_114 : decode b_Mo_reads 114 = .ok (.iconst 4, 1) := by decide +kernel
theorem d_Mo_reads_115 : decode b_Mo_reads 115 = .ok (.goto 4, 3) := by decide +kernel
theorem d_Mo_reads_118 : decode b_Mo_reads 118 = .ok (.iconst 0, 1) := by decide +kernel
theorem d_Mo_reads_119 : decode b_Mo_reads 119 = .ok (.istore 5, 2) := by decide +kernel
theorem d_Mo_reads_121 : decode b_Mo_reads 121 = .ok (.iload 5, 2) := by decide +kernel
theorem d_Mo_reads_123 : decode b_Mo_reads 123 = .ok (.iload_n 2, 1) := by decide +kernel
theorem d_Mo_reads_124 : decode b_Mo_reads 124 = .ok (.if_icmp .le 14, 3) := by decide +kernel
theorem d_Mo_reads_127 : decode b_Mo_reads 127 = .ok (.iload 5, 2) := by decide +kernel
theorem d_Mo_reads_129 : decode b_Mo_reads 129 = .ok (.iconst 4, 1) := by decide +kernel
theorem d_Mo_reads_130 : decode b_Mo_reads 130 = .ok (.if_icmp .ne 17, 3) := by decide +kernel
theorem d_Mo_reads_133 : decode b_Mo_reads 133 = .ok (.iload_n 2, 1) := by decide +kernel
theorem d_Mo_reads_134 : decode b_Mo_reads 134 = .ok (.iconst 3, 1) := by decide +kernel
theorem d_Mo_reads_135 : decode b_Mo_reads 135 = .ok (.if_icmp .eq 12, 3) := by decide +kernel
theorem d_Mo_reads_138 : decode b_Mo_reads 138 = .ok (.aload_n 0, 1) := by decide +kernel
theorem d_Mo_reads_139 : decode b_Mo_reads 139 = .ok (.aload_n 0, 1) := by decide +kernel
theorem d_Mo_reads_140 : decode b_Mo_reads 140 = .ok (.getfield 70, 3) := by decide +kernel
theorem d_Mo_reads_143 : decode b_Mo_reads 143 = .ok (.invokevirtual 77, 3) := by decide +kernel
theorem d_Mo_reads_146 : decode b_Mo_reads 146 = .ok (.ireturn, 1) := by decide +kernel
theorem d_Mo_reads_147 : decode b_Mo_reads 147 = .ok (.aload_n 0, 1) := by decide +kernel
theorem d_Mo_reads_148 : decode b_Mo_reads 148 = .ok (.invokevirtual 99, 3) := by decide +kernel
theorem d_Mo_reads_151 : decode b_Mo_reads 151 = .ok (.iload 5, 2) := by decide +kernel
theorem d_Mo_reads_153 : decode b_Mo_reads 153 = .ok (.istore_n 2, 1) := by decide +kernel
theorem d_Mo_reads_154 : decode b_Mo_reads 154 = .ok (.iload 5, 2) := by decide +kernel
theorem d_Mo_reads_156 : decode b_Mo_reads 156 = .ok (.iconst 4, 1) := by decide +kernel
theorem d_Mo_reads_157 : decode b_Mo_reads 157 = .ok (.if_icmp .ne 13, 3) := by decide +kernel
theorem d_Mo_reads_160 : decode b_Mo_reads 160 = .ok (.aload_n 0, 1) := by decide +kernel
theorem d_Mo_reads_161 : decode b_Mo_reads 161 = .ok (.getfield 26, 3) := by decide +kernel
theorem d_Mo_reads_164 : decode b_Mo_reads 164 = .ok (.iload_n 1, 1) := by decide +kernel
theorem d_Mo_reads_165 : decode b_Mo_reads 165 = .ok (.iconst 1, 1) := by decide +kernel
theorem d_Mo_reads_166 : decode b_Mo_reads 166 = .ok (.bastore, 1) := by decide +kernel
theorem d_Mo_reads_167 : decode b_Mo_reads 167 = .ok (.goto 79, 3) := by decide +kernel
theorem d_Mo_reads_170 : decode b_Mo_reads 170 = .ok (.aload_n 0, 1) := by decide +kernel
theorem d_Mo_reads_171 : decode b_Mo_reads 171 = .ok (.invokevirtual 102, 3) := by decide +kernel
theorem d_Mo_reads_174 : decode b_Mo_reads 174 = .ok (.ifCond .ne 5, 3) := by decide +kernel
theorem d_Mo_reads_177 : decode b_Mo_reads 177 = .ok (.iconst 0, 1) := by decide +kernel
theorem d_Mo_reads_178 : decode b_Mo_reads 178 = .ok (.ireturn, 1) := by decide +kernel
theorem d_Mo_reads_179 : decode b_Mo_reads 179 = .ok (.iload 5, 2) := by decide +kernel
theorem d_Mo_reads_181 : decode b_Mo_reads 181 = .ok (.iconst 1, 1) := by decide +kernel
theorem d_Mo_reads_182 : decode b_Mo_reads 182 = .ok (.if_icmp .ne 13, 3) := by decide +kernel
theorem d_Mo_reads_185 : decode b_Mo_reads 185 = .ok (.aload_n 0, 1) := by decide +kernel
theorem d_Mo_reads_186 : decode b_Mo_reads 186 = .ok (.iload_n 1, 1) := by decide +kernel
theorem d_Mo_reads_187 : decode b_Mo_reads 187 = .ok (.invokevirtual 127, 3) := by decide +kernel
theorem d_Mo_reads_190 : decode b_Mo_reads 190 = .ok (.ifCond .ne 56, 3) := by decide +kernel
theorem d_Mo_reads_193 : decode b_Mo_reads 193 = .ok (.iconst 0, 1) := by decide +kernel
theorem d_Mo_reads_194 : decode b_Mo_reads 194 = .ok (.ireturn, 1) := by decide +kernel
theorem d_Mo_reads_195 : decode b_Mo_reads 195 = .ok (.aload_n 0, 1) := by decide +kernel
theorem d_Mo_reads_196 : decode b_Mo_reads 196 = .ok (.iload 5, 2) := by decide +kernel
theorem d_Mo_reads_198 : decode b_Mo_reads 198 = .ok (.iconst 2, 1) := by decide +kernel
theorem d_Mo_reads_199 : decode b_Mo_reads 199 = .ok (.if_icmp .ne 7, 3) := by decide +kernel
theorem d_Mo_reads_202 : decode b_Mo_reads 202 = .ok (.iconst 2, 1) := by decide +kernel
theorem d_Mo_reads_203 : decode b_Mo_reads 203 = .ok (.goto 4, 3) := by decide +kernel
theorem d_Mo_reads_206 : decode b_Mo_reads 206 = .ok (.iconst 1, 1) := by decide +kernel
theorem d_Mo_reads_207 : decode b_Mo_reads 207 = .ok (.bipush 99, 2) := by decide +kernel
theorem d_Mo_reads_209 : decode b_Mo_reads 209 = .ok (.invokevirtual 106, 3) := by decide +kernel
theorem d_Mo_reads_212 : decode b_Mo_reads 212 = .ok (.istore 6, 2) := by decide +kernel
theorem d_Mo_reads_214 : decode b_Mo_reads 214 = .ok (.iload 6, 2) := by decide +kernel
theorem d_Mo_reads_216 : decode b_Mo_reads 216 = .ok (.ifCond .ge 5, 3) := by decide +kernel
theorem d_Mo_reads_219 : decode b_Mo_reads 219 = .ok (.iconst 0, 1) := by decide +kernel
theorem d_Mo_reads_220 : decode b_Mo_reads 220 = .ok (.ireturn, 1) := by decide +kernel
theorem d_Mo_reads_221 : decode b_Mo_reads 221 = .ok (.iload 5, 2) := by decide +kernel
theorem d_Mo_reads_223 : decode b_Mo_reads 223 = .ok (.iconst 2, 1) := by decide +kernel
theorem d_Mo_reads_224 : decode b_Mo_reads 224 = .ok (.if_icmp .ne 14, 3) := by decide +kernel
theorem d_Mo_reads_227 : decode b_Mo_reads 227 = .ok (.aload_n 0, 1) := by decide +kernel
theorem d_Mo_reads_228 : decode b_Mo_reads 228 = .ok (.getfield 20, 3) := by decide +kernel
theorem d_Mo_reads_231 : decode b_Mo_reads 231 = .ok (.iload_n 1, 1) := by decide +kernel
theorem d_Mo_reads_232 : decode b_Mo_reads 232 = .ok (.iload 6, 2) := by decide +kernel
theorem d_Mo_reads_234 : decode b_Mo_reads 234 = .ok (.iastore, 1) := by decide +kernel
theorem d_Mo_reads_235 : decode b_Mo_reads 235 = .ok (.goto 11, 3) := by decide +kernel
theorem d_Mo_reads_238 : decode b_Mo_reads 238 = .ok (.aload_n 0, 1) := by decide +kernel
theorem d_Mo_reads_239 : decode b_Mo_reads 239 = .ok (.getfield 23, 3) := by decide +kernel
theorem d_Mo_reads_242 : decode b_Mo_reads 242 = .ok (.iload_n 1, 1) := by decide +kernel
theorem d_Mo_reads_243 : decode b_Mo_reads 243 = .ok (.iload 6, 2) := by decide +kernel
theorem d_Mo_reads_245 : decode b_Mo_reads 245 = .ok (.iastore, 1) := by decide +kernel
theorem d_Mo_reads_246 : decode b_Mo_reads 246 = .ok (.goto (-201), 3) := by decide +kernel
theorem d_Mo_reads_249 : decode b_Mo_reads 249 = .ok (.iconst 1, 1) := by decide +kernel
theorem d_Mo_reads_250 : decode b_Mo_reads 250 = .ok (.ireturn, 1) := by decide +kernel
theorem d_Mo_read_0 : decode b_Mo_read 0 = .ok (.aload_n 0, 1) := by decide +kernel
theorem d_Mo_read_1 : decode b_Mo_read 1 = .ok (.iconst 0, 1) := by decide +kernel
theorem d_Mo_read_2 : decode b_Mo_read 2 = .ok (.putfield 60, 3) := by decide +kernel
theorem d_Mo_read_5 : decode b_Mo_read 5 = .ok (.aload_n 0, 1) := by decide +kernel
theorem d_Mo_read_6 : decode b_Mo_read 6 = .ok (.aload_n 0, 1) := by decide +kernel
theorem d_Mo_read_7 : decode b_Mo_read 7 = .ok (.getfield 130, 3) := by decide +kernel
theorem d_Mo_read_10 : decode b_Mo_read 10 = .ok (.invokevirtual 133, 3) := by decide +kernel
theorem d_Mo_read_13 : decode b_Mo_read 13 = .ok (.istore_n 1, 1) := by decide +kernel
theorem d_Mo_read_14 : decode b_Mo_read 14 = .ok (.aload_n 0, 1) := by decide +kernel
theorem d_Mo_read_15 : decode b_Mo_read 15 = .ok (.getfield 64, 3) := by decide +kernel
theorem d_Mo_read_18 : decode b_Mo_read 18 = .ok (.istore_n 2, 1) := by decide +kernel
theorem d_Mo_read_19 : decode b_Mo_read 19 = .ok (.aload_n 0, 1) := by decide +kernel
theorem d_Mo_read_20 : decode b_Mo_read 20 = .ok (.iconst 0, 1) := by decide +kernel
theorem d_Mo_read_21 : decode b_Mo_read 21 = .ok (.putfield 64, 3) := by decide +kernel
theorem d_Mo_read_24 : decode b_Mo_read 24 = .ok (.iload_n 1, 1) := by decide +kernel
theorem d_Mo_read_25 : decode b_Mo_read 25 = .ok (.ifCond .ne 10, 3) := by decide +kernel
theorem d_Mo_read_28 : decode b_Mo_read 28 = .ok (.iconst (-1), 1) := by decide +kernel
theorem d_Mo_read_29 : decode b_Mo_read 29 = .ok (.aload_n 0, 1) := by decide +kernel
theorem d_Mo_read_30 : decode b_Mo_read 30 = .ok (.getfield 67, 3) := by decide +kernel
theorem d_Mo_read_33 : decode b_Mo_read 33 = .ok (.isub, 1) := by decide +kernel
theorem d_Mo_read_34 : decode b_Mo_read 34 = .ok (.ireturn, 1) := by decide +kernel
theorem d_Mo_read_35 : decode b_Mo_read 35 = .ok (.aload_n 0, 1) := by decide +kernel
theorem d_Mo_read_36 : decode b_Mo_read 36 = .ok (.getfield 130, 3) := by decide +kernel
theorem d_Mo_read_39 : decode b_Mo_read 39 = .ok (.bipush 10, 2) := by decide +kernel
theorem d_Mo_read_41 : decode b_Mo_read 41 = .ok (.if_icmp .ne 7, 3) := by decide +kernel
theorem d_Mo_read_44 : decode b_Mo_read 44 = .ok (.sipush (-200), 3) := by decide +kernel
theorem d_Mo_read_47 : decode b_Mo_read 47 = .ok (.ireturn, 1) := by decide +kernel
theorem d_Mo_read_48 : decode b_Mo_read 48 = .ok (.iconst 0, 1) := by decide +kernel
theorem d_Mo_read_49 : decode b_Mo_read 49 = .ok (.istore_n 3, 1) := by decide +kernel
theorem d_Mo_read_50 : decode b_Mo_read 50 = .ok (.iload_n 3, 1) := by decide +kernel
theorem d_Mo_read_51 : decode b_Mo_read 51 = .ok (.iload_n 2, 1) := by decide +kernel
theorem d_Mo_read_52 : decode b_Mo_read 52 = .ok (.if_icmp .ge 29, 3) := by decide +kernel
theorem d_Mo_read_55 : decode b_Mo_read 55 = .ok (.aload_n 0, 1) := by decide +kernel
theorem d_Mo_read_56 : decode b_Mo_read 56 = .ok (.getfield 30, 3) := by decide +kernel
theorem d_Mo_read_59 : decode b_Mo_read 59 = .ok (.bipush 120, 2) := by decide +kernel
theorem d_Mo_read_61 : decode b_Mo_read 61 = .ok (.aload_n 0, 1) := by decide +kernel
theorem d_Mo_read_62 : decode b_Mo_read 62 = .ok (.getfield 130, 3) := by decide +kernel
theorem d_Mo_read_65 : decode b_Mo_read 65 = .ok (.imul, 1) := by decide +kernel
theorem d_Mo_read_66 : decode b_Mo_read 66 = .ok (.iload_n 3, 1) := by decide +kernel
theorem d_Mo_read_67 : decode b_Mo_read 67 = .ok (.iadd, 1) := by decide +kernel
theorem d_Mo_read_68 : decode b_Mo_read 68 = .ok (.aload_n 0, 1) := by decide +kernel
theorem d_Mo_read_69 : decode b_Mo_read 69 = .ok (.getfield 7, 3) := by decide +kernel
theorem d_Mo_read_72 : decode b_Mo_read 72 = .ok (.iload_n 3, 1) := by decide +kernel
theorem d_Mo_read_73 : decode b_Mo_read 73 = .ok (.baload, 1) := by decide +kernel
theorem d_Mo_read_74 : decode b_Mo_read 74 = .ok (.bastore, 1) := by decide +kernel
theorem d_Mo_read_75 : decode b_Mo_read 75 = .ok (.iinc 3 1, 3) := by decide +kernel
theorem d_Mo_read_78 : decode b_Mo_read 78 = .ok (.goto (-28), 3) := by decide +kernel
theorem d_Mo_read_81 : decode b_Mo_read 81 = .ok (.aload_n 0, 1) := by decide +kernel
theorem d_Mo_read_82 : decode b_Mo_read 82 = .ok (.getfield 33, 3) := by decide +kernel
theorem d_Mo_read_85 : decode b_Mo_read 85 = .ok (.aload_n 0, 1) := by decide +kernel
theorem d_Mo_read_86 : decode b_Mo_read 86 = .ok (.getfield 130, 3) := by decide +kernel
theorem d_Mo_read_89 : decode b_Mo_read 89 = .ok (.iload_n 2, 1) := by decide +kernel
theorem d_Mo_read_90 : decode b_Mo_read 90 = .ok (.iastore, 1) := by decide +kernel
theorem d_Mo_read_91 : decode b_Mo_read 91 = .ok (.aload_n 0, 1) := by decide +kernel
theorem d_Mo_read_92 : decode b_Mo_read 92 = .ok (.dup, 1) := by decide +kernel
theorem d_Mo_read_93 : decode b_Mo_read 93 = .ok (.getfield 130, 3) := by decide +kernel
theorem d_Mo_read_96 : decode b_Mo_read 96 = .ok (.iconst 1, 1) := by decide +kernel
theorem d_Mo_read_97 : decode b_Mo_read 97 = .ok (.iadd, 1) := by decide +kernel
theorem d_Mo_read_98 : decode b_Mo_read 98 = .ok (.putfield 130, 3) := by decide +kernel
theorem d_Mo_read_101 : decode b_Mo_read 101 = .ok (.aload_n 0, 1) := by decide +kernel
theorem d_Mo_read_102 : decode b_Mo_read 102 = .ok (.getfield 130, 3) := by decide +kernel
theorem d_Mo_read_105 : decode b_Mo_read 105 = .ok (.iconst 1, 1) := by decide +kernel
theorem d_Mo_read_106 : decode b_Mo_read 106 = .ok (.isub, 1) := by decide +kernel
theorem d_Mo_read_107 : decode b_Mo_read 107 = .ok (.ireturn, 1) := by decide +kernel
theorem d_Mo_isPattern_0 : decode b_Mo_isPattern 0 = .ok (.iload_n 1, 1) := by decide +kernel
theorem d_Mo_isPattern_1 : decode b_Mo_isPattern 1 = .ok (.ifCond .lt 15, 3) := by decide +kernel
theorem d_Mo_isPattern_4 : decode b_Mo_isPattern 4 = .ok (.iload_n 1, 1) := by decide +kernel
theorem d_Mo_isPattern_5 : decode b_Mo_isPattern 5 = .ok (.aload_n 0, 1) := by decide +kernel
theorem d_Mo_isPattern_6 : decode b_Mo_isPattern 6 = .ok (.getfield 130, 3) := by decide +kernel
theorem d_Mo_isPattern_9 : decode b_Mo_isPattern 9 = .ok (.if_icmp .ge 7, 3) := by decide +kernel
theorem d_Mo_isPattern_12 : decode b_Mo_isPattern 12 = .ok (.iconst 1, 1) := by decide +kernel
theorem d_Mo_isPattern_13 : decode b_Mo_isPattern 13 = .ok (.goto 4, 3) := by decide +kernel
theorem d_Mo_isPattern_16 : decode b_Mo_isPattern 16 = .ok (.iconst 0, 1) := by decide +kernel
theorem d_Mo_isPattern_17 : decode b_Mo_isPattern 17 = .ok (.ireturn, 1) := by decide +kernel
theorem d_Mo_isDay_0 : decode b_Mo_isDay 0 = .ok (.iload_n 0, 1) := by decide +kernel
theorem d_Mo_isDay_1 : decode b_Mo_isDay 1 = .ok (.ifCond .lt 13, 3) := by decide +kernel
theorem d_Mo_isDay_4 : decode b_Mo_isDay 4 = .ok (.iload_n 0, 1) := by decide +kernel
theorem d_Mo_isDay_5 : decode b_Mo_isDay 5 = .ok (.ldc 136, 2) := by decide +kernel
theorem d_Mo_isDay_7 : decode b_Mo_isDay 7 = .ok (.if_icmp .gt 7, 3) := by decide +kernel
theorem d_Mo_isDay_10 : decode b_Mo_isDay 10 = .ok (.iconst 1, 1) := by decide +kernel
theorem d_Mo_isDay_11 : decode b_Mo_isDay 11 = .ok (.goto 4, 3) := by decide +kernel
theorem d_Mo_isDay_14 : decode b_Mo_isDay 14 = .ok (.iconst 0, 1) := by decide +kernel
theorem d_Mo_isDay_15 : decode b_Mo_isDay 15 = .ok (.ireturn, 1) := by decide +kernel
theorem d_Mo_isHoliday_0 : decode b_Mo_isHoliday 0 = .ok (.iconst 0, 1) := by decide +kernel
theorem d_Mo_isHoliday_1 : decode b_Mo_isHoliday 1 = .ok (.istore_n 2, 1) := by decide +kernel
theorem d_Mo_isHoliday_2 : decode b_Mo_isHoliday 2 = .ok (.iconst 0, 1) := by decide +kernel
theorem d_Mo_isHoliday_3 : decode b_Mo_isHoliday 3 = .ok (.istore_n 3, 1) := by decide +kernel
theorem d_Mo_isHoliday_4 : decode b_Mo_isHoliday 4 = .ok (.iload_n 3, 1) := by decide +kernel
theorem d_Mo_isHoliday_5 : decode b_Mo_isHoliday 5 = .ok (.aload_n 0, 1) := by decide +kernel
theorem d_Mo_isHoliday_6 : decode b_Mo_isHoliday 6 = .ok (.getfield 137, 3) := by decide +kernel
theorem d_Mo_isHoliday_9 : decode b_Mo_isHoliday 9 = .ok (.if_icmp .ge 29, 3) := by decide +kernel
theorem d_Mo_isHoliday_12 : decode b_Mo_isHoliday 12 = .ok (.iload_n 2, 1) := by decide +kernel
theorem d_Mo_isHoliday_13 : decode b_Mo_isHoliday 13 = .ok (.ifCond .ne 13, 3) := by decide +kernel
theorem d_Mo_isHoliday_16 : decode b_Mo_isHoliday 16 = .ok (.aload_n 0, 1) := by decide +kernel
theorem d_Mo_isHoliday_17 : decode b_Mo_isHoliday 17 = .ok (.getfield 36, 3) := by decide +kernel
theorem d_Mo_isHoliday_20 : decode b_Mo_isHoliday 20 = .ok (.iload_n 3, 1) := by decide +kernel
theorem d_Mo_isHoliday_21 : decode b_Mo_isHoliday 21 = .ok (.iaload, 1) := by decide +kernel
theorem d_Mo_isHoliday_22 : decode b_Mo_isHoliday 22 = .ok (.iload_n 1, 1) := by decide +kernel
theorem d_Mo_isHoliday_23 : decode b_Mo_isHoliday 23 = .ok (.if_icmp .ne 7, 3) := by decide +kernel
theorem d_Mo_isHoliday_26 : decode b_Mo_isHoliday 26 = .ok (.iconst 1, 1) := by decide +kernel
theorem d_Mo_isHoliday_27 : decode b_Mo_isHoliday 27 = .ok (.goto 4, 3) := by decide +kernel
theorem d_Mo_isHoliday_30 : decode b_Mo_isHoliday 30 = .ok (.iconst 0, 1) := by decide +kernel
theorem d_Mo_isHoliday_31 : decode b_Mo_isHoliday 31 = .ok (.istore_n 2, 1) := by decide +kernel
theorem d_Mo_isHoliday_32 : decode b_Mo_isHoliday 32 = .ok (.iinc 3 1, 3) := by decide +kernel
theorem d_Mo_isHoliday_35 : decode b_Mo_isHoliday 35 = .ok (.goto (-31), 3) := by decide +kernel
theorem d_Mo_isHoliday_38 : decode b_Mo_isHoliday 38 = .ok (.iload_n 2, 1) := by decide +kernel
theorem d_Mo_isHoliday_39 : decode b_Mo_isHoliday 39 = .ok (.ireturn, 1) := by decide +kernel
theorem d_Mo_holiday_0 : decode b_Mo_holiday 0 = .ok (.aload_n 0, 1) := by decide +kernel
theorem d_Mo_holiday_1 : decode b_Mo_holiday 1 = .ok (.iconst 0, 1) := by decide +kernel
theorem d_Mo_holiday_2 : decode b_Mo_holiday 2 = .ok (.putfield 60, 3) := by decide +kernel
theorem d_Mo_holiday_5 : decode b_Mo_holiday 5 = .ok (.iload_n 1, 1) := by decide +kernel
theorem d_Mo_holiday_6 : decode b_Mo_holiday 6 = .ok (.invokestatic 140, 3) := by decide +kernel
theorem d_Mo_holiday_9 : decode b_Mo_holiday 9 = .ok (.ifCond .eq 20, 3) := by decide +kernel
theorem d_Mo_holiday_12 : decode b_Mo_holiday 12 = .ok (.aload_n 0, 1) := by decide +kernel
theorem d_Mo_holiday_13 : decode b_Mo_holiday 13 = .ok (.iload_n 1, 1) := by decide +kernel
theorem d_Mo_holiday_14 : decode b_Mo_holiday 14 = .ok (.invokevirtual 143, 3) := by decide +kernel
theorem d_Mo_holiday_17 : decode b_Mo_holiday 17 = .ok (.ifCond .ne 12, 3) := by decide +kernel
theorem d_Mo_holiday_20 : decode b_Mo_holiday 20 = .ok (.aload_n 0, 1) := by decide +kernel
theorem d_Mo_holiday_21 : decode b_Mo_holiday 21 = .ok (.getfield 137, 3) := by decide +kernel
theorem d_Mo_holiday_24 : decode b_Mo_holiday 24 = .ok (.bipush 60, 2) := by decide +kernel
theorem d_Mo_holiday_26 : decode b_Mo_holiday 26 = .ok (.if_icmp .ne 5, 3) := by decide +kernel
theorem d_Mo_holiday_29 : decode b_Mo_holiday 29 = .ok (.iconst 0, 1) := by decide +kernel
theorem d_Mo_holiday_30 : decode b_Mo_holiday 30 = .ok (.ireturn, 1) := by decide +kernel
theorem d_Mo_holiday_31 : decode b_Mo_holiday 31 = .ok (.aload_n 0, 1) := by decide +kernel
theorem d_Mo_holiday_32 : decode b_Mo_holiday 32 = .ok (.getfield 36, 3) := by decide +kernel
theorem d_Mo_holiday_35 : decode b_Mo_holiday 35 = .ok (.aload_n 0, 1) := by decide +kernel
theorem d_Mo_holiday_36 : decode b_Mo_holiday 36 = .ok (.getfield 137, 3) := by decide +kernel
theorem d_Mo_holiday_39 : decode b_Mo_holiday 39 = .ok (.iload_n 1, 1) := by decide +kernel
theorem d_Mo_holiday_40 : decode b_Mo_holiday 40 = .ok (.iastore, 1) := by decide +kernel
theorem d_Mo_holiday_41 : decode b_Mo_holiday 41 = .ok (.aload_n 0, 1) := by decide +kernel
theorem d_Mo_holiday_42 : decode b_Mo_holiday 42 = .ok (.dup, 1) := by decide +kernel
theorem d_Mo_holiday_43 : decode b_Mo_holiday 43 = .ok (.getfield 137, 3) := by decide +kernel
theorem d_Mo_holiday_46 : decode b_Mo_holiday 46 = .ok (.iconst 1, 1) := by decide +kernel
theorem d_Mo_holiday_47 : decode b_Mo_holiday 47 = .ok (.iadd, 1) := by decide +kernel
theorem d_Mo_holiday_48 : decode b_Mo_holiday 48 = .ok (.putfield 137, 3) := by decide +kernel
theorem d_Mo_holiday_51 : decode b_Mo_holiday 51 = .ok (.aload_n 0, 1) := by decide +kernel
theorem d_Mo_holiday_52 : decode b_Mo_holiday 52 = .ok (.getfield 137, 3) := by decide +kernel
theorem d_Mo_holiday_55 : decode b_Mo_holiday 55 = .ok (.ireturn, 1) := by decide +kernel
theorem d_Mo_has_0 : decode b_Mo_has 0 = .ok (.aload_n 0, 1) := by decide +kernel
theorem d_Mo_has_1 : decode b_Mo_has 1 = .ok (.getfield 17, 3) := by decide +kernel
theorem d_Mo_has_4 : decode b_Mo_has 4 = .ok (.iload_n 1, 1) := by decide +kernel
theorem d_Mo_has_5 : decode b_Mo_has 5 = .ok (.iaload, 1) := by decide +kernel
theorem d_Mo_has_6 : decode b_Mo_has 6 = .ok (.iload_n 2, 1) := by decide +kernel
theorem d_Mo_has_7 : decode b_Mo_has 7 = .ok (.bipush 30, 2) := by decide +kernel
theorem d_Mo_has_9 : decode b_Mo_has 9 = .ok (.idiv, 1) := by decide +kernel
theorem d_Mo_has_10 : decode b_Mo_has 10 = .ok (.bipush 12, 2) := by decide +kernel
theorem d_Mo_has_12 : decode b_Mo_has 12 = .ok (.irem, 1) := by decide +kernel
theorem d_Mo_has_13 : decode b_Mo_has 13 = .ok (.ishr, 1) := by decide +kernel
theorem d_Mo_has_14 : decode b_Mo_has 14 = .ok (.iconst 1, 1) := by decide +kernel
theorem d_Mo_has_15 : decode b_Mo_has 15 = .ok (.iand, 1) := by decide +kernel
theorem d_Mo_has_16 : decode b_Mo_has 16 = .ok (.ifCond .ne 7, 3) := by decide +kernel
theorem d_Mo_has_19 : decode b_Mo_has 19 = .ok (.iconst 1, 1) := by decide +kernel
theorem d_Mo_has_20 : decode b_Mo_has 20 = .ok (.goto 4, 3) := by decide +kernel
theorem d_Mo_has_23 : decode b_Mo_has 23 = .ok (.iconst 0, 1) := by decide +kernel
theorem d_Mo_has_24 : decode b_Mo_has 24 = .ok (.ireturn, 1) := by decide +kernel
theorem d_Mo_go_0 : decode b_Mo_go 0 = .ok (.iload 4, 2) := by decide +kernel
theorem d_Mo_go_2 : decode b_Mo_go 2 = .ok (.istore 5, 2) := by decide +kernel
theorem d_Mo_go_4 : decode b_Mo_go 4 = .ok (.iload_n 2, 1) := by decide +kernel
theorem d_Mo_go_5 : decode b_Mo_go 5 = .ok (.istore 6, 2) := by decide +kernel
theorem d_Mo_go_7 : decode b_Mo_go 7 = .ok (.iconst 0, 1) := by decide +kernel
theorem d_Mo_go_8 : decode b_Mo_go 8 = .ok (.istore 7, 2) := by decide +kernel
theorem d_Mo_go_10 : decode b_Mo_go 10 = .ok (.iload 7, 2) := by decide +kernel
theorem d_Mo_go_12 : decode b_Mo_go 12 = .ok (.iload_n 3, 1) := by decide +kernel
theorem d_Mo_go_13 : decode b_Mo_go 13 = .ok (.if_icmp .ge 227, 3) := by decide +kernel
theorem d_Mo_go_16 : decode b_Mo_go 16 = .ok (.iload 6, 2) := by decide +kernel
theorem d_Mo_go_18 : decode b_Mo_go 18 = .ok (.ifCond .lt 222, 3) := by decide +kernel
theorem d_Mo_go_21 : decode b_Mo_go 21 = .ok (.iload 6, 2) := by decide +kernel
theorem d_Mo_go_23 : decode b_Mo_go 23 = .ok (.sipush 1800, 3) := by decide +kernel
theorem d_Mo_go_26 : decode b_Mo_go 26 = .ok (.iadd, 1) := by decide +kernel
theorem d_Mo_go_27 : decode b_Mo_go 27 = .ok (.istore 8, 2) := by decide +kernel
theorem d_Mo_go_29 : decode b_Mo_go 29 = .ok (.iload 6, 2) := by decide +kernel
theorem d_Mo_go_31 : decode b_Mo_go 31 = .ok (.iload 8, 2) := by decide +kernel
theorem d_Mo_go_33 : decode b_Mo_go 33 = .ok (.if_icmp .gt 34, 3) := by decide +kernel
theorem d_Mo_go_36 : decode b_Mo_go 36 = .ok (.iload 6, 2) := by decide +kernel
theorem d_Mo_go_38 : decode b_Mo_go 38 = .ok (.ldc 136, 2) := by decide +kernel
theorem d_Mo_go_40 : decode b_Mo_go 40 = .ok (.if_icmp .gt 27, 3) := by decide +kernel
theorem d_Mo_go_43 : decode b_Mo_go 43 = .ok (.aload_n 0, 1) := by decide +kernel
theorem d_Mo_go_44 : decode b_Mo_go 44 = .ok (.iload_n 1, 1) := by decide +kernel
theorem d_Mo_go_45 : decode b_Mo_go 45 = .ok (.iload 6, 2) := by decide +kernel
theorem d_Mo_go_47 : decode b_Mo_go 47 = .ok (.invokevirtual 146, 3) := by decide +kernel
theorem d_Mo_go_50 : decode b_Mo_go 50 = .ok (.ifCond .ne 17, 3) := by decide +kernel
theorem d_Mo_go_53 : decode b_Mo_go 53 = .ok (.iload 6, 2) := by decide +kernel
theorem d_Mo_go_55 : decode b_Mo_go 55 = .ok (.aload_n 0, 1) := by decide +kernel
theorem d_Mo_go_56 : decode b_Mo_go 56 = .ok (.getfield 13, 3) := by decide +kernel
theorem d_Mo_go_59 : decode b_Mo_go 59 = .ok (.iload_n 1, 1) := by decide +kernel
theorem d_Mo_go_60 : decode b_Mo_go 60 = .ok (.iaload, 1) := by decide +kernel
theorem d_Mo_go_61 : decode b_Mo_go 61 = .ok (.iadd, 1) := by decide +kernel
theorem d_Mo_go_62 : decode b_Mo_go 62 = .ok (.istore 6, 2) := by decide +kernel
theorem d_Mo_go_64 : decode b_Mo_go 64 = .ok (.goto (-35), 3) := by decide +kernel
theorem d_Mo_go_67 : decode b_Mo_go 67 = .ok (.iload 6, 2) := by decide +kernel
theorem d_Mo_go_69 : decode b_Mo_go 69 = .ok (.istore 9, 2) := by decide +kernel
theorem d_Mo_go_71 : decode b_Mo_go 71 = .ok (.aload_n 0, 1) := by decide +kernel
theorem d_Mo_go_72 : decode b_Mo_go 72 = .ok (.iload 9, 2) := by decide +kernel
theorem d_Mo_go_74 : decode b_Mo_go 74 = .ok (.invokevirtual 143, 3) := by decide +kernel
theorem d_Mo_go_77 : decode b_Mo_go 77 = .ok (.ifCond .eq 9, 3) := by decide +kernel
theorem d_Mo_go_80 : decode b_Mo_go 80 = .ok (.iinc 9 1, 3) := by decide +kernel
theorem d_Mo_go_83 : decode b_Mo_go 83 = .ok (.goto (-12), 3) := by decide +kernel
theorem d_Mo_go_86 : decode b_Mo_go 86 = .ok (.iload 6, 2) := by decide +kernel
theorem d_Mo_go_88 : decode b_Mo_go 88 = .ok (.iload 8, 2) := by decide +kernel
theorem d_Mo_go_90 : decode b_Mo_go 90 = .ok (.if_icmp .gt 10, 3) := by decide +kernel
theorem d_Mo_go_93 : decode b_Mo_go 93 = .ok (.iload 9, 2) := by decide +kernel
theorem d_Mo_go_95 : decode b_Mo_go 95 = .ok (.ldc 136, 2) := by decide +kernel
theorem d_Mo_go_97 : decode b_Mo_go 97 = .ok (.if_icmp .le 9, 3) := by decide +kernel
theorem d_Mo_go_100 : decode b_Mo_go 100 = .ok (.iconst (-1), 1) := by decide +kernel
theorem d_Mo_go_101 : decode b_Mo_go 101 = .ok (.istore 6, 2) := by decide +kernel
theorem d_Mo_go_103 : decode b_Mo_go 103 = .ok (.goto 134, 3) := by decide +kernel
theorem d_Mo_go_106 : decode b_Mo_go 106 = .ok (.iinc 7 1, 3) := by decide +kernel
theorem d_Mo_go_109 : decode b_Mo_go 109 = .ok (.aload_n 0, 1) := by decide +kernel
theorem d_Mo_go_110 : decode b_Mo_go 110 = .ok (.getfield 20, 3) := by decide +kernel
theorem d_Mo_go_113 : decode b_Mo_go 113 = .ok (.iload_n 1, 1) := by decide +kernel
theorem d_Mo_go_114 : decode b_Mo_go 114 = .ok (.iaload, 1) := by decide +kernel
theorem d_Mo_go_115 : decode b_Mo_go 115 = .ok (.ifCond .le 19, 3) := by decide +kernel
theorem d_Mo_go_118 : decode b_Mo_go 118 = .ok (.iload 7, 2) := by decide +kernel
theorem d_Mo_go_120 : decode b_Mo_go 120 = .ok (.aload_n 0, 1) := by decide +kernel
theorem d_Mo_go_121 : decode b_Mo_go 121 = .ok (.getfield 20, 3) := by decide +kernel
theorem d_Mo_go_124 : decode b_Mo_go 124 = .ok (.iload_n 1, 1) := by decide +kernel
theorem d_Mo_go_125 : decode b_Mo_go 125 = .ok (.iaload, 1) := by decide +kernel
theorem d_Mo_go_126 : decode b_Mo_go 126 = .ok (.irem, 1) := by decide +kernel
theorem d_Mo_go_127 : decode b_Mo_go 127 = .ok (.ifCond .ne 7, 3) := by decide +kernel
theorem d_Mo_go_130 : decode b_Mo_go 130 = .ok (.iconst 1, 1) := by decide +kernel
theorem d_Mo_go_131 : decode b_Mo_go 131 = .ok (.goto 4, 3) := by decide +kernel
theorem d_Mo_go_134 : decode b_Mo_go 134 = .ok (.iconst 0, 1) := by decide +kernel
theorem d_Mo_go_135 : decode b_Mo_go 135 = .ok (.istore 10, 2) := by decide +kernel
theorem d_Mo_go_137 : decode b_Mo_go 137 = .ok (.aload_n 0, 1) := by decide +kernel
theorem d_Mo_go_138 : decode b_Mo_go 138 = .ok (.getfield 39, 3) := by decide +kernel
theorem d_Mo_go_141 : decode b_Mo_go 141 = .ok (.aload_n 0, 1) := by decide +kernel
theorem d_Mo_go_142 : decode b_Mo_go 142 = .ok (.getfield 150, 3) := by decide +kernel
theorem d_Mo_go_145 : decode b_Mo_go 145 = .ok (.iload 6, 2) := by decide +kernel
theorem d_Mo_go_147 : decode b_Mo_go 147 = .ok (.iastore, 1) := by decide +kernel
theorem d_Mo_go_148 : decode b_Mo_go 148 = .ok (.aload_n 0, 1) := by decide +kernel
theorem d_Mo_go_149 : decode b_Mo_go 149 = .ok (.getfield 42, 3) := by decide +kernel
theorem d_Mo_go_152 : decode b_Mo_go 152 = .ok (.aload_n 0, 1) := by decide +kernel
theorem d_Mo_go_153 : decode b_Mo_go 153 = .ok (.getfield 150, 3) := by decide +kernel
theorem d_Mo_go_156 : decode b_Mo_go 156 = .ok (.iload 9, 2) := by decide +kernel
theorem d_Mo_go_158 : decode b_Mo_go 158 = .ok (.iastore, 1) := by decide +kernel
theorem d_Mo_go_159 : decode b_Mo_go 159 = .ok (.aload_n 0, 1) := by decide +kernel
theorem d_Mo_go_160 : decode b_Mo_go 160 = .ok (.getfield 45, 3) := by decide +kernel
theorem d_Mo_go_163 : decode b_Mo_go 163 = .ok (.aload_n 0, 1) := by decide +kernel
theorem d_Mo_go_164 : decode b_Mo_go 164 = .ok (.getfield 150, 3) := by decide +kernel
theorem d_Mo_go_167 : decode b_Mo_go 167 = .ok (.iload 5, 2) := by decide +kernel
theorem d_Mo_go_169 : decode b_Mo_go 169 = .ok (.iastore, 1) := by decide +kernel
theorem d_Mo_go_170 : decode b_Mo_go 170 = .ok (.aload_n 0, 1) := by decide +kernel
theorem d_Mo_go_171 : decode b_Mo_go 171 = .ok (.getfield 48, 3) := by decide +kernel
theorem d_Mo_go_174 : decode b_Mo_go 174 = .ok (.aload_n 0, 1) := by decide +kernel
theorem d_Mo_go_175 : decode b_Mo_go 175 = .ok (.getfield 150, 3) := by decide +kernel
theorem d_Mo_go_178 : decode b_Mo_go 178 = .ok (.iload 10, 2) := by decide +kernel
theorem d_Mo_go_180 : decode b_Mo_go 180 = .ok (.bastore, 1) := by decide +kernel
theorem d_Mo_go_181 : decode b_Mo_go 181 = .ok (.aload_n 0, 1) := by decide +kernel
theorem d_Mo_go_182 : decode b_Mo_go 182 = .ok (.getfield 51, 3) := by decide +kernel
theorem d_Mo_go_185 : decode b_Mo_go 185 = .ok (.aload_n 0, 1) := by decide +kernel
theorem d_Mo_go_186 : decode b_Mo_go 186 = .ok (.getfield 150, 3) := by decide +kernel
theorem d_Mo_go_189 : decode b_Mo_go 189 = .ok (.iload_n 1, 1) := by decide +kernel
theorem d_Mo_go_190 : decode b_Mo_go 190 = .ok (.iastore, 1) := by decide +kernel
theorem d_Mo_go_191 : decode b_Mo_go 191 = .ok (.aload_n 0, 1) := by decide +kernel
theorem d_Mo_go_192 : decode b_Mo_go 192 = .ok (.getfield 54, 3) := by decide +kernel
theorem d_Mo_go_195 : decode b_Mo_go 195 = .ok (.aload_n 0, 1) := by decide +kernel
theorem d_Mo_go_196 : decode b_Mo_go 196 = .ok (.getfield 150, 3) := by decide +kernel
theorem d_Mo_go_199 : decode b_Mo_go 199 = .ok (.iconst (-1), 1) := by decide +kernel
theorem d_Mo_go_200 : decode b_Mo_go 200 = .ok (.iastore, 1) := by decide +kernel
theorem d_Mo_go_201 : decode b_Mo_go 201 = .ok (.aload_n 0, 1) := by decide +kernel
theorem d_Mo_go_202 : decode b_Mo_go 202 = .ok (.dup, 1) := by decide +kernel
theorem d_Mo_go_203 : decode b_Mo_go 203 = .ok (.getfield 150, 3) := by decide +kernel
theorem d_Mo_go_206 : decode b_Mo_go 206 = .ok (.iconst 1, 1) := by decide +kernel
theorem d_Mo_go_207 : decode b_Mo_go 207 = .ok (.iadd, 1) := by decide +kernel
theorem d_Mo_go_208 : decode b_Mo_go 208 = .ok (.putfield 150, 3) := by decide +kernel
theorem d_Mo_go_211 : decode b_Mo_go 211 = .ok (.iload 5, 2) := by decide +kernel
theorem d_Mo_go_213 : decode b_Mo_go 213 = .ok (.iload 10, 2) := by decide +kernel
theorem d_Mo_go_215 : decode b_Mo_go 215 = .ok (.ifCond .eq 7, 3) := by decide +kernel
theorem d_Mo_go_218 : decode b_Mo_go 218 = .ok (.iconst 2, 1) := by decide +kernel
theorem d_Mo_go_219 : decode b_Mo_go 219 = .ok (.goto 4, 3) := by decide +kernel
theorem d_Mo_go_222 : decode b_Mo_go 222 = .ok (.iconst 1, 1) := by decide +kernel
theorem d_Mo_go_223 : decode b_Mo_go 223 = .ok (.iadd, 1) := by decide +kernel
theorem d_Mo_go_224 : decode b_Mo_go 224 = .ok (.istore 5, 2) := by decide +kernel
theorem d_Mo_go_226 : decode b_Mo_go 226 = .ok (.iload 6, 2) := by decide +kernel
theorem d_Mo_go_228 : decode b_Mo_go 228 = .ok (.aload_n 0, 1) := by decide +kernel
theorem d_Mo_go_229 : decode b_Mo_go 229 = .ok (.getfield 13, 3) := by decide +kernel
theorem d_Mo_go_232 : decode b_Mo_go 232 = .ok (.iload_n 1, 1) := by decide +kernel
theorem d_Mo_go_233 : decode b_Mo_go 233 = .ok (.iaload, 1) := by decide +kernel
theorem d_Mo_go_234 : decode b_Mo_go 234 = .ok (.iadd, 1) := by decide +kernel
theorem d_Mo_go_235 : decode b_Mo_go 235 = .ok (.istore 6, 2) := by decide +kernel
theorem d_Mo_go_237 : decode b_Mo_go 237 = .ok (.goto (-227), 3) := by decide +kernel
theorem d_Mo_go_240 : decode b_Mo_go 240 = .ok (.return_, 1) := by decide +kernel
theorem d_Mo_foretell_0 : decode b_Mo_foretell 0 = .ok (.aload_n 0, 1) := by decide +kernel
theorem d_Mo_foretell_1 : decode b_Mo_foretell 1 = .ok (.iconst 0, 1) := by decide +kernel
theorem d_Mo_foretell_2 : decode b_Mo_foretell 2 = .ok (.putfield 60, 3) := by decide +kernel
theorem d_Mo_foretell_5 : decode b_Mo_foretell 5 = .ok (.aload_n 0, 1) := by decide +kernel
theorem d_Mo_foretell_6 : decode b_Mo_foretell 6 = .ok (.iload_n 1, 1) := by decide +kernel
theorem d_Mo_foretell_7 : decode b_Mo_foretell 7 = .ok (.invokevirtual 153, 3) := by decide +kernel
theorem d_Mo_foretell_10 : decode b_Mo_foretell 10 = .ok (.ifCond .eq 21, 3) := by decide +kernel
theorem d_Mo_foretell_13 : decode b_Mo_foretell 13 = .ok (.iload_n 3, 1) := by decide +kernel
theorem d_Mo_foretell_14 : decode b_Mo_foretell 14 = .ok (.iconst 1, 1) := by decide +kernel
theorem d_Mo_foretell_15 : decode b_Mo_foretell 15 = .ok (.if_icmp .lt 16, 3) := by decide +kernel
theorem d_Mo_foretell_18 : decode b_Mo_foretell 18 = .ok (.iload_n 3, 1) := by decide +kernel
theorem d_Mo_foretell_19 : decode b_Mo_foretell 19 = .ok (.bipush 100, 2) := by decide +kernel
theorem d_Mo_foretell_21 : decode b_Mo_foretell 21 = .ok (.if_icmp .gt 10, 3) := by decide +kernel
theorem d_Mo_foretell_24 : decode b_Mo_foretell 24 = .ok (.iload_n 2, 1) := by decide +kernel
theorem d_Mo_foretell_25 : decode b_Mo_foretell 25 = .ok (.invokestatic 140, 3) := by decide +kernel
theorem d_Mo_foretell_28 : decode b_Mo_foretell 28 = .ok (.ifCond .ne 5, 3) := by decide +kernel
theorem d_Mo_foretell_31 : decode b_Mo_foretell 31 = .ok (.iconst (-1), 1) := by decide +kernel
theorem d_Mo_foretell_32 : decode b_Mo_foretell 32 = .ok (.ireturn, 1) := by decide +kernel
theorem d_Mo_foretell_33 : decode b_Mo_foretell 33 = .ok (.aload_n 0, 1) := by decide +kernel
theorem d_Mo_foretell_34 : decode b_Mo_foretell 34 = .ok (.iconst 0, 1) := by decide +kernel
theorem d_Mo_foretell_35 : decode b_Mo_foretell 35 = .ok (.putfield 150, 3) := by decide +kernel
theorem d_Mo_foretell_38 : decode b_Mo_foretell 38 = .ok (.aload_n 0, 1) := by decide +kernel
theorem d_Mo_foretell_39 : decode b_Mo_foretell 39 = .ok (.iload_n 1, 1) := by decide +kernel
theorem d_Mo_foretell_40 : decode b_Mo_foretell 40 = .ok (.iload_n 2, 1) := by decide +kernel
theorem d_Mo_foretell_41 : decode b_Mo_foretell 41 = .ok (.iload_n 3, 1) := by decide +kernel
theorem d_Mo_foretell_42 : decode b_Mo_foretell 42 = .ok (.iconst 1, 1) := by decide +kernel
theorem d_Mo_foretell_43 : decode b_Mo_foretell 43 = .ok (.invokevirtual 156, 3) := by decide +kernel
theorem d_Mo_foretell_46 : decode b_Mo_foretell 46 = .ok (.aload_n 0, 1) := by decide +kernel
theorem d_Mo_foretell_47 : decode b_Mo_foretell 47 = .ok (.getfield 150, 3) := by decide +kernel
theorem d_Mo_foretell_50 : decode b_Mo_foretell 50 = .ok (.ireturn, 1) := by decide +kernel
theorem d_Mo_changed_0 : decode b_Mo_changed 0 = .ok (.aload_n 0, 1) := by decide +kernel
theorem d_Mo_changed_1 : decode b_Mo_changed 1 = .ok (.iconst 0, 1) := by decide +kernel
theorem d_Mo_changed_2 : decode b_Mo_changed 2 = .ok (.putfield 60, 3) := by decide +kernel
theorem d_Mo_changed_5 : decode b_Mo_changed 5 = .ok (.aload_n 0, 1) := by decide +kernel
theorem d_Mo_changed_6 : decode b_Mo_changed 6 = .ok (.iload_n 1, 1) := by decide +kernel
theorem d_Mo_changed_7 : decode b_Mo_changed 7 = .ok (.invokevirtual 153, 3) := by decide +kernel
theorem d_Mo_changed_10 : decode b_Mo_changed 10 = .ok (.ifCond .eq 10, 3) := by decide +kernel
theorem d_Mo_changed_13 : decode b_Mo_changed 13 = .ok (.iload_n 2, 1) := by decide +kernel
theorem d_Mo_changed_14 : decode b_Mo_changed 14 = .ok (.invokestatic 140, 3) := by decide +kernel
theorem d_Mo_changed_17 : decode b_Mo_changed 17 = .ok (.ifCond .ne 5, 3) := by decide +kernel
theorem d_Mo_changed_20 : decode b_Mo_changed 20 = .ok (.iconst (-1), 1) := by decide +kernel
theorem d_Mo_changed_21 : decode b_Mo_changed 21 = .ok (.ireturn, 1) := by decide +kernel
theorem d_Mo_changed_22 : decode b_Mo_changed 22 = .ok (.iconst 0, 1) := by decide +kernel
theorem d_Mo_changed_23 : decode b_Mo_changed 23 = .ok (.istore_n 3, 1) := by decide +kernel
theorem d_Mo_changed_24 : decode b_Mo_changed 24 = .ok (.iload_n 3, 1) := by decide +kernel
theorem d_Mo_changed_25 : decode b_Mo_changed 25 = .ok (.aload_n 0, 1) := by decide +kernel
theorem d_Mo_changed_26 : decode b_Mo_changed 26 = .ok (.getfield 150, 3) := by decide +kernel
theorem d_Mo_changed_29 : decode b_Mo_changed 29 = .ok (.if_icmp .ge 19, 3) := by decide +kernel
theorem d_Mo_changed_32 : decode b_Mo_changed 32 = .ok (.aload_n 0, 1) := by decide +kernel
theorem d_Mo_changed_33 : decode b_Mo_changed 33 = .ok (.getfield 39, 3) := by decide +kernel
theorem d_Mo_changed_36 : decode b_Mo_changed 36 = .ok (.iload_n 3, 1) := by decide +kernel
theorem d_Mo_changed_37 : decode b_Mo_changed 37 = .ok (.iaload, 1) := by decide +kernel
theorem d_Mo_changed_38 : decode b_Mo_changed 38 = .ok (.iload_n 2, 1) := by decide +kernel
theorem d_Mo_changed_39 : decode b_Mo_changed 39 = .ok (.if_icmp .ge 9, 3) := by decide +kernel
theorem d_Mo_changed_42 : decode b_Mo_changed 42 = .ok (.iinc 3 1, 3) := by decide +kernel
theorem d_Mo_changed_45 : decode b_Mo_changed 45 = .ok (.goto (-21), 3) := by decide +kernel
theorem d_Mo_changed_48 : decode b_Mo_changed 48 = .ok (.iload_n 3, 1) := by decide +kernel
theorem d_Mo_changed_49 : decode b_Mo_changed 49 = .ok (.istore 4, 2) := by decide +kernel
theorem d_Mo_changed_51 : decode b_Mo_changed 51 = .ok (.iload 4, 2) := by decide +kernel
theorem d_Mo_changed_53 : decode b_Mo_changed 53 = .ok (.aload_n 0, 1) := by decide +kernel
theorem d_Mo_changed_54 : decode b_Mo_changed 54 = .ok (.getfield 150, 3) := by decide +kernel
theorem d_Mo_changed_57 : decode b_Mo_changed 57 = .ok (.if_icmp .ge 22, 3) := by decide +kernel
theorem d_Mo_changed_60 : decode b_Mo_changed 60 = .ok (.aload_n 0, 1) := by decide +kernel
theorem d_Mo_changed_61 : decode b_Mo_changed 61 = .ok (.getfield 54, 3) := by decide +kernel
theorem d_Mo_changed_64 : decode b_Mo_changed 64 = .ok (.iload 4, 2) := by decide +kernel
theorem d_Mo_changed_66 : decode b_Mo_changed 66 = .ok (.iaload, 1) := by decide +kernel
theorem d_Mo_changed_67 : decode b_Mo_changed 67 = .ok (.iconst (-1), 1) := by decide +kernel
theorem d_Mo_changed_68 : decode b_Mo_changed 68 = .ok (.if_icmp .eq 5, 3) := by decide +kernel
theorem d_Mo_changed_71 : decode b_Mo_changed 71 = .ok (.iconst (-1), 1) := by decide +kernel
theorem d_Mo_changed_72 : decode b_Mo_changed 72 = .ok (.ireturn, 1) := by decide +kernel
theorem d_Mo_changed_73 : decode b_Mo_changed 73 = .ok (.iinc 4 1, 3) := by decide +kernel
theorem d_Mo_changed_76 : decode b_Mo_changed 76 = .ok (.goto (-25), 3) := by decide +kernel
theorem d_Mo_changed_79 : decode b_Mo_changed 79 = .ok (.aload_n 0, 1) := by decide +kernel
theorem d_Mo_changed_80 : decode b_Mo_changed 80 = .ok (.getfield 150, 3) := by decide +kernel
theorem d_Mo_changed_83 : decode b_Mo_changed 83 = .ok (.iload_n 3, 1) := by decide +kernel
theorem d_Mo_changed_84 : decode b_Mo_changed 84 = .ok (.isub, 1) := by decide +kernel
theorem d_Mo_changed_85 : decode b_Mo_changed 85 = .ok (.istore 4, 2) := by decide +kernel
theorem d_Mo_changed_87 : decode b_Mo_changed 87 = .ok (.aload_n 0, 1) := by decide +kernel
theorem d_Mo_changed_88 : decode b_Mo_changed 88 = .ok (.iload_n 3, 1) := by decide +kernel
theorem d_Mo_changed_89 : decode b_Mo_changed 89 = .ok (.putfield 150, 3) := by decide +kernel
theorem d_Mo_changed_92 : decode b_Mo_changed 92 = .ok (.aload_n 0, 1) := by decide +kernel
theorem d_Mo_changed_93 : decode b_Mo_changed 93 = .ok (.iload_n 1, 1) := by decide +kernel
theorem d_Mo_changed_94 : decode b_Mo_changed 94 = .ok (.iload_n 2, 1) := by decide +kernel
theorem d_Mo_changed_95 : decode b_Mo_changed 95 = .ok (.iload 4, 2) := by decide +kernel
theorem d_Mo_changed_97 : decode b_Mo_changed 97 = .ok (.iload_n 3, 1) := by decide +kernel
theorem d_Mo_changed_98 : decode b_Mo_changed 98 = .ok (.ifCond .ne 7, 3) := by decide +kernel
theorem d_Mo_changed_101 : decode b_Mo_changed 101 = .ok (.iconst 1, 1) := by decide +kernel
theorem d_Mo_changed_102 : decode b_Mo_changed 102 = .ok (.goto 28, 3) := by decide +kernel
theorem d_Mo_changed_105 : decode b_Mo_changed 105 = .ok (.aload_n 0, 1) := by decide +kernel
theorem d_Mo_changed_106 : decode b_Mo_changed 106 = .ok (.getfield 45, 3) := by decide +kernel
theorem d_Mo_changed_109 : decode b_Mo_changed 109 = .ok (.iload_n 3, 1) := by decide +kernel
theorem d_Mo_changed_110 : decode b_Mo_changed 110 = .ok (.iconst 1, 1) := by decide +kernel
theorem d_Mo_changed_111 : decode b_Mo_changed 111 = .ok (.isub, 1) := by decide +kernel
theorem d_Mo_changed_112 : decode b_Mo_changed 112 = .ok (.iaload, 1) := by decide +kernel
theorem d_Mo_changed_113 : decode b_Mo_changed 113 = .ok (.aload_n 0, 1) := by decide +kernel
theorem d_Mo_changed_114 : decode b_Mo_changed 114 = .ok (.getfield 48, 3) := by decide +kernel
theorem d_Mo_changed_117 : decode b_Mo_changed 117 = .ok (.iload_n 3, 1) := by decide +kernel
theorem d_Mo_changed_118 : decode b_Mo_changed 118 = .ok (.iconst 1, 1) := by decide +kernel
theorem d_Mo_changed_119 : decode b_Mo_changed 119 = .ok (.isub, 1) := by decide +kernel
theorem d_Mo_changed_120 : decode b_Mo_changed 120 = .ok (.baload, 1) := by decide +kernel
theorem d_Mo_changed_121 : decode b_Mo_changed 121 = .ok (.ifCond .eq 7, 3) := by decide +kernel
theorem d_Mo_changed_124 : decode b_Mo_changed 124 = .ok (.iconst 2, 1) := by decide +kernel
theorem d_Mo_changed_125 : decode b_Mo_changed 125 = .ok (.goto 4, 3) := by decide +kernel
theorem d_Mo_changed_128 : decode b_Mo_changed 128 = .ok (.iconst 1, 1) := by decide +kernel
theorem d_Mo_changed_129 : decode b_Mo_changed 129 = .ok (.iadd, 1) := by decide +kernel
theorem d_Mo_changed_130 : decode b_Mo_changed 130 = .ok (.invokevirtual 156, 3) := by decide +kernel
theorem d_Mo_changed_133 : decode b_Mo_changed 133 = .ok (.iload 4, 2) := by decide +kernel
theorem d_Mo_changed_135 : decode b_Mo_changed 135 = .ok (.ireturn, 1) := by decide +kernel
theorem d_Mo_isIssue_0 : decode b_Mo_isIssue 0 = .ok (.iload_n 1, 1) := by decide +kernel
theorem d_Mo_isIssue_1 : decode b_Mo_isIssue 1 = .ok (.ifCond .lt 15, 3) := by decide +kernel
theorem d_Mo_isIssue_4 : decode b_Mo_isIssue 4 = .ok (.iload_n 1, 1) := by decide +kernel
theorem d_Mo_isIssue_5 : decode b_Mo_isIssue 5 = .ok (.aload_n 0, 1) := by decide +kernel
theorem d_Mo_isIssue_6 : decode b_Mo_isIssue 6 = .ok (.getfield 150, 3) := by decide +kernel
theorem d_Mo_isIssue_9 : decode b_Mo_isIssue 9 = .ok (.if_icmp .ge 7, 3) := by decide +kernel
theorem d_Mo_isIssue_12 : decode b_Mo_isIssue 12 = .ok (.iconst 1, 1) := by decide +kernel
theorem d_Mo_isIssue_13 : decode b_Mo_isIssue 13 = .ok (.goto 4, 3) := by decide +kernel
theorem d_Mo_isIssue_16 : decode b_Mo_isIssue 16 = .ok (.iconst 0, 1) := by decide +kernel
theorem d_Mo_isIssue_17 : decode b_Mo_isIssue 17 = .ok (.ireturn, 1) := by decide +kernel
theorem d_Mo_told_0 : decode b_Mo_told 0 = .ok (.aload_n 0, 1) := by decide +kernel
theorem d_Mo_told_1 : decode b_Mo_told 1 = .ok (.getfield 26, 3) := by decide +kernel
theorem d_Mo_told_4 : decode b_Mo_told 4 = .ok (.iload_n 1, 1) := by decide +kernel
theorem d_Mo_told_5 : decode b_Mo_told 5 = .ok (.baload, 1) := by decide +kernel
theorem d_Mo_told_6 : decode b_Mo_told 6 = .ok (.ifCond .eq 18, 3) := by decide +kernel
theorem d_Mo_told_9 : decode b_Mo_told 9 = .ok (.iload_n 2, 1) := by decide +kernel
theorem d_Mo_told_10 : decode b_Mo_told 10 = .ok (.iconst 1, 1) := by decide +kernel
theorem d_Mo_told_11 : decode b_Mo_told 11 = .ok (.isub, 1) := by decide +kernel
theorem d_Mo_told_12 : decode b_Mo_told 12 = .ok (.aload_n 0, 1) := by decide +kernel
theorem d_Mo_told_13 : decode b_Mo_told 13 = .ok (.getfield 23, 3) := by decide +kernel
theorem d_Mo_told_16 : decode b_Mo_told 16 = .ok (.iload_n 1, 1) := by decide +kernel
theorem d_Mo_told_17 : decode b_Mo_told 17 = .ok (.iaload, 1) := by decide +kernel
theorem d_Mo_told_18 : decode b_Mo_told 18 = .ok (.irem, 1) := by decide +kernel
theorem d_Mo_told_19 : decode b_Mo_told 19 = .ok (.iconst 1, 1) := by decide +kernel
theorem d_Mo_told_20 : decode b_Mo_told 20 = .ok (.iadd, 1) := by decide +kernel
theorem d_Mo_told_21 : decode b_Mo_told 21 = .ok (.goto 4, 3) := by decide +kernel
theorem d_Mo_told_24 : decode b_Mo_told 24 = .ok (.iload_n 2, 1) := by decide +kernel
theorem d_Mo_told_25 : decode b_Mo_told 25 = .ok (.ireturn, 1) := by decide +kernel
theorem d_Mo_issue_0 : decode b_Mo_issue 0 = .ok (.aload_n 0, 1) := by decide +kernel
theorem d_Mo_issue_1 : decode b_Mo_issue 1 = .ok (.iconst 0, 1) := by decide +kernel
theorem d_Mo_issue_2 : decode b_Mo_issue 2 = .ok (.putfield 60, 3) := by decide +kernel
theorem d_Mo_issue_5 : decode b_Mo_issue 5 = .ok (.aload_n 0, 1) := by decide +kernel
theorem d_Mo_issue_6 : decode b_Mo_issue 6 = .ok (.iload_n 1, 1) := by decide +kernel
theorem d_Mo_issue_7 : decode b_Mo_issue 7 = .ok (.invokevirtual 160, 3) := by decide +kernel
theorem d_Mo_issue_10 : decode b_Mo_issue 10 = .ok (.ifCond .ne 5, 3) := by decide +kernel
theorem d_Mo_issue_13 : decode b_Mo_issue 13 = .ok (.iconst (-1), 1) := by decide +kernel
theorem d_Mo_issue_14 : decode b_Mo_issue 14 = .ok (.ireturn, 1) := by decide +kernel
theorem d_Mo_issue_15 : decode b_Mo_issue 15 = .ok (.aload_n 0, 1) := by decide +kernel
theorem d_Mo_issue_16 : decode b_Mo_issue 16 = .ok (.getfield 51, 3) := by decide +kernel
theorem d_Mo_issue_19 : decode b_Mo_issue 19 = .ok (.iload_n 1, 1) := by decide +kernel
theorem d_Mo_issue_20 : decode b_Mo_issue 20 = .ok (.iaload, 1) := by decide +kernel
theorem d_Mo_issue_21 : decode b_Mo_issue 21 = .ok (.istore_n 3, 1) := by decide +kernel
theorem d_Mo_issue_22 : decode b_Mo_issue 22 = .ok (.iload_n 2, 1) := by decide +kernel
theorem d_Mo_issue_23 : decode b_Mo_issue 23 = .ok (.tableswitch 140 0 5 #[37, 49, 64, 95, 122, 124], 37) := by decide +kernel
theorem d_Mo_issue_60 : decode b_Mo_issue 60 = .ok (.aload_n 0, 1) := by decide +kernel
theorem d_Mo_issue_61 : decode b_Mo_issue 61 = .ok (.iload_n 3, 1) := by decide +kernel
theorem d_Mo_issue_62 : decode b_Mo_issue 62 = .ok (.aload_n 0, 1) := by decide +kernel
theorem d_Mo_issue_63 : decode b_Mo_issue 63 = .ok (.getfield 45, 3) := by decide +kernel
theorem d_Mo_issue_66 : decode b_Mo_issue 66 = .ok (.iload_n 1, 1) := by decide +kernel
theorem d_Mo_issue_67 : decode b_Mo_issue 67 = .ok (.iaload, 1) := by decide +kernel
theorem d_Mo_issue_68 : decode b_Mo_issue 68 = .ok (.invokevirtual 163, 3) := by decide +kernel
theorem d_Mo_issue_71 : decode b_Mo_issue 71 = .ok (.ireturn, 1) := by decide +kernel
theorem d_Mo_issue_72 : decode b_Mo_issue 72 = .ok (.aload_n 0, 1) := by decide +kernel
theorem d_Mo_issue_73 : decode b_Mo_issue 73 = .ok (.getfield 48, 3) := by decide +kernel
theorem d_Mo_issue_76 : decode b_Mo_issue 76 = .ok (.iload_n 1, 1) := by decide +kernel
theorem d_Mo_issue_77 : decode b_Mo_issue 77 = .ok (.baload, 1) := by decide +kernel
theorem d_Mo_issue_78 : decode b_Mo_issue 78 = .ok (.ifCond .eq 7, 3) := by decide +kernel
theorem d_Mo_issue_81 : decode b_Mo_issue 81 = .ok (.iconst 2, 1) := by decide +kernel
theorem d_Mo_issue_82 : decode b_Mo_issue 82 = .ok (.goto 4, 3) := by decide +kernel
theorem d_Mo_issue_85 : decode b_Mo_issue 85 = .ok (.iconst 1, 1) := by decide +kernel
theorem d_Mo_issue_86 : decode b_Mo_issue 86 = .ok (.ireturn, 1) := by decide +kernel
theorem d_Mo_issue_87 : decode b_Mo_issue 87 = .ok (.aload_n 0, 1) := by decide +kernel
theorem d_Mo_issue_88 : decode b_Mo_issue 88 = .ok (.getfield 23, 3) := by decide +kernel
theorem d_Mo_issue_91 : decode b_Mo_issue 91 = .ok (.iload_n 3, 1) := by decide +kernel
theorem d_Mo_issue_92 : decode b_Mo_issue 92 = .ok (.iaload, 1) := by decide +kernel
theorem d_Mo_issue_93 : decode b_Mo_issue 93 = .ok (.ifCond .ne 7, 3) := by decide +kernel
theorem d_Mo_issue_96 : decode b_Mo_issue 96 = .ok (.iconst 0, 1) := by decide +kernel
theorem d_Mo_issue_97 : decode b_Mo_issue 97 = .ok (.goto 20, 3) := by decide +kernel
theorem d_Mo_issue_100 : decode b_Mo_issue 100 = .ok (.aload_n 0, 1) := by decide +kernel
theorem d_Mo_issue_101 : decode b_Mo_issue 101 = .ok (.getfield 45, 3) := by decide +kernel
theorem d_Mo_issue_104 : decode b_Mo_issue 104 = .ok (.iload_n 1, 1) := by decide +kernel
theorem d_Mo_issue_105 : decode b_Mo_issue 105 = .ok (.iaload, 1) := by decide +kernel
theorem d_Mo_issue_106 : decode b_Mo_issue 106 = .ok (.iconst 1, 1) := by decide +kernel
theorem d_Mo_issue_107 : decode b_Mo_issue 107 = .ok (.isub, 1) := by decide +kernel
theorem d_Mo_issue_108 : decode b_Mo_issue 108 = .ok (.aload_n 0, 1) := by decide +kernel
theorem d_Mo_issue_109 : decode b_Mo_issue 109 = .ok (.getfield 23, 3) := by decide +kernel
theorem d_Mo_issue_112 : decode b_Mo_issue 112 = .ok (.iload_n 3, 1) := by decide +kernel
theorem d_Mo_issue_113 : decode b_Mo_issue 113 = .ok (.iaload, 1) := by decide +kernel
theorem d_Mo_issue_114 : decode b_Mo_issue 114 = .ok (.idiv, 1) := by decide +kernel
theorem d_Mo_issue_115 : decode b_Mo_issue 115 = .ok (.iconst 1, 1) := by decide +kernel
theorem d_Mo_issue_116 : decode b_Mo_issue 116 = .ok (.iadd, 1) := by decide +kernel
theorem d_Mo_issue_117 : decode b_Mo_issue 117 = .ok (.ireturn, 1) := by decide +kernel
theorem d_Mo_issue_118 : decode b_Mo_issue 118 = .ok (.aload_n 0, 1) := by decide +kernel
theorem d_Mo_issue_119 : decode b_Mo_issue 119 = .ok (.getfield 48, 3) := by decide +kernel
theorem d_Mo_issue_122 : decode b_Mo_issue 122 = .ok (.iload_n 1, 1) := by decide +kernel
theorem d_Mo_issue_123 : decode b_Mo_issue 123 = .ok (.baload, 1) := by decide +kernel
theorem d_Mo_issue_124 : decode b_Mo_issue 124 = .ok (.ifCond .eq 19, 3) := by decide +kernel
theorem d_Mo_issue_127 : decode b_Mo_issue 127 = .ok (.aload_n 0, 1) := by decide +kernel
theorem d_Mo_issue_128 : decode b_Mo_issue 128 = .ok (.iload_n 3, 1) := by decide +kernel
theorem d_Mo_issue_129 : decode b_Mo_issue 129 = .ok (.aload_n 0, 1) := by decide +kernel
theorem d_Mo_issue_130 : decode b_Mo_issue 130 = .ok (.getfield 45, 3) := by decide +kernel
theorem d_Mo_issue_133 : decode b_Mo_issue 133 = .ok (.iload_n 1, 1) := by decide +kernel
theorem d_Mo_issue_134 : decode b_Mo_issue 134 = .ok (.iaload, 1) := by decide +kernel
theorem d_Mo_issue_135 : decode b_Mo_issue 135 = .ok (.iconst 1, 1) := by decide +kernel
theorem d_Mo_issue_136 : decode b_Mo_issue 136 = .ok (.iadd, 1) := by decide +kernel
theorem d_Mo_issue_137 : decode b_Mo_issue 137 = .ok (.invokevirtual 163, 3) := by decide +kernel
theorem d_Mo_issue_140 : decode b_Mo_issue 140 = .ok (.goto 4, 3) := by decide +kernel
theorem d_Mo_issue_143 : decode b_Mo_issue 143 = .ok (.iconst 0, 1) := by decide +kernel
theorem d_Mo_issue_144 : decode b_Mo_issue 144 = .ok (.ireturn, 1) := by decide +kernel
theorem d_Mo_issue_145 : decode b_Mo_issue 145 = .ok (.iload_n 3, 1) := by decide +kernel
theorem d_Mo_issue_146 : decode b_Mo_issue 146 = .ok (.ireturn, 1) := by decide +kernel
theorem d_Mo_issue_147 : decode b_Mo_issue 147 = .ok (.aload_n 0, 1) := by decide +kernel
theorem d_Mo_issue_148 : decode b_Mo_issue 148 = .ok (.getfield 54, 3) := by decide +kernel
theorem d_Mo_issue_151 : decode b_Mo_issue 151 = .ok (.iload_n 1, 1) := by decide +kernel
theorem d_Mo_issue_152 : decode b_Mo_issue 152 = .ok (.iaload, 1) := by decide +kernel
theorem d_Mo_issue_153 : decode b_Mo_issue 153 = .ok (.iconst (-1), 1) := by decide +kernel
theorem d_Mo_issue_154 : decode b_Mo_issue 154 = .ok (.if_icmp .ne 7, 3) := by decide +kernel
theorem d_Mo_issue_157 : decode b_Mo_issue 157 = .ok (.iconst 0, 1) := by decide +kernel
theorem d_Mo_issue_158 : decode b_Mo_issue 158 = .ok (.goto 4, 3) := by decide +kernel
theorem d_Mo_issue_161 : decode b_Mo_issue 161 = .ok (.iconst 1, 1) := by decide +kernel
theorem d_Mo_issue_162 : decode b_Mo_issue 162 = .ok (.ireturn, 1) := by decide +kernel
theorem d_Mo_issue_163 : decode b_Mo_issue 163 = .ok (.iconst (-1), 1) := by decide +kernel
theorem d_Mo_issue_164 : decode b_Mo_issue 164 = .ok (.ireturn, 1) := by decide +kernel
theorem d_Mo_date_0 : decode b_Mo_date 0 = .ok (.aload_n 0, 1) := by decide +kernel
theorem d_Mo_date_1 : decode b_Mo_date 1 = .ok (.iconst 0, 1) := by decide +kernel
theorem d_Mo_date_2 : decode b_Mo_date 2 = .ok (.putfield 60, 3) := by decide +kernel
theorem d_Mo_date_5 : decode b_Mo_date 5 = .ok (.aload_n 0, 1) := by decide +kernel
theorem d_Mo_date_6 : decode b_Mo_date 6 = .ok (.iload_n 1, 1) := by decide +kernel
theorem d_Mo_date_7 : decode b_Mo_date 7 = .ok (.invokevirtual 160, 3) := by decide +kernel
theorem d_Mo_date_10 : decode b_Mo_date 10 = .ok (.ifCond .eq 13, 3) := by decide +kernel
theorem d_Mo_date_13 : decode b_Mo_date 13 = .ok (.aload_n 0, 1) := by decide +kernel
theorem d_Mo_date_14 : decode b_Mo_date 14 = .ok (.getfield 42, 3) := by decide +kernel
theorem d_Mo_date_17 : decode b_Mo_date 17 = .ok (.iload_n 1, 1) := by decide +kernel
theorem d_Mo_date_18 : decode b_Mo_date 18 = .ok (.iaload, 1) := by decide +kernel
theorem d_Mo_date_19 : decode b_Mo_date 19 = .ok (.i2l, 1) := by decide +kernel
theorem d_Mo_date_20 : decode b_Mo_date 20 = .ok (.goto 6, 3) := by decide +kernel
theorem d_Mo_date_23 : decode b_Mo_date 23 = .ok (.ldc2_w 84, 3) := by decide +kernel
theorem d_Mo_date_26 : decode b_Mo_date 26 = .ok (.lreturn, 1) := by decide +kernel
theorem d_Mo_irregular_0 : decode b_Mo_irregular 0 = .ok (.aload_n 0, 1) := by decide +kernel
theorem d_Mo_irregular_1 : decode b_Mo_irregular 1 = .ok (.iconst 0, 1) := by decide +kernel
theorem d_Mo_irregular_2 : decode b_Mo_irregular 2 = .ok (.putfield 60, 3) := by decide +kernel
theorem d_Mo_irregular_5 : decode b_Mo_irregular 5 = .ok (.aload_n 0, 1) := by decide +kernel
theorem d_Mo_irregular_6 : decode b_Mo_irregular 6 = .ok (.iload_n 1, 1) := by decide +kernel
theorem d_Mo_irregular_7 : decode b_Mo_irregular 7 = .ok (.invokevirtual 160, 3) := by decide +kernel
theorem d_Mo_irregular_10 : decode b_Mo_irregular 10 = .ok (.ifCond .eq 20, 3) := by decide +kernel
theorem d_Mo_irregular_13 : decode b_Mo_irregular 13 = .ok (.iload_n 2, 1) := by decide +kernel
theorem d_Mo_irregular_14 : decode b_Mo_irregular 14 = .ok (.invokestatic 140, 3) := by decide +kernel
theorem d_Mo_irregular_17 : decode b_Mo_irregular 17 = .ok (.ifCond .eq 13, 3) := by decide +kernel
theorem d_Mo_irregular_20 : decode b_Mo_irregular 20 = .ok (.aload_n 0, 1) := by decide +kernel
theorem d_Mo_irregular_21 : decode b_Mo_irregular 21 = .ok (.getfield 54, 3) := by decide +kernel
theorem d_Mo_irregular_24 : decode b_Mo_irregular 24 = .ok (.iload_n 1, 1) := by decide +kernel
theorem d_Mo_irregular_25 : decode b_Mo_irregular 25 = .ok (.iaload, 1) := by decide +kernel
theorem d_Mo_irregular_26 : decode b_Mo_irregular 26 = .ok (.iconst (-1), 1) := by decide +kernel
theorem d_Mo_irregular_27 : decode b_Mo_irregular 27 = .ok (.if_icmp .eq 5, 3) := by decide +kernel
theorem d_Mo_irregular_30 : decode b_Mo_irregular 30 = .ok (.iconst 0, 1) := by decide +kernel
theorem d_Mo_irregular_31 : decode b_Mo_irregular 31 = .ok (.ireturn, 1) := by decide +kernel
theorem d_Mo_irregular_32 : decode b_Mo_irregular 32 = .ok (.aload_n 0, 1) := by decide +kernel
theorem d_Mo_irregular_33 : decode b_Mo_irregular 33 = .ok (.getfield 42, 3) := by decide +kernel
theorem d_Mo_irregular_36 : decode b_Mo_irregular 36 = .ok (.iload_n 1, 1) := by decide +kernel
theorem d_Mo_irregular_37 : decode b_Mo_irregular 37 = .ok (.iload_n 2, 1) := by decide +kernel
theorem d_Mo_irregular_38 : decode b_Mo_irregular 38 = .ok (.iastore, 1) := by decide +kernel
theorem d_Mo_irregular_39 : decode b_Mo_irregular 39 = .ok (.iconst 1, 1) := by decide +kernel
theorem d_Mo_irregular_40 : decode b_Mo_irregular 40 = .ok (.ireturn, 1) := by decide +kernel
theorem d_Mo_came_0 : decode b_Mo_came 0 = .ok (.aload_n 0, 1) := by decide +kernel
theorem d_Mo_came_1 : decode b_Mo_came 1 = .ok (.iconst 0, 1) := by decide +kernel
theorem d_Mo_came_2 : decode b_Mo_came 2 = .ok (.putfield 60, 3) := by decide +kernel
theorem d_Mo_came_5 : decode b_Mo_came 5 = .ok (.aload_n 0, 1) := by decide +kernel
theorem d_Mo_came_6 : decode b_Mo_came 6 = .ok (.iload_n 1, 1) := by decide +kernel
theorem d_Mo_came_7 : decode b_Mo_came 7 = .ok (.invokevirtual 160, 3) := by decide +kernel
theorem d_Mo_came_10 : decode b_Mo_came 10 = .ok (.ifCond .eq 20, 3) := by decide +kernel
theorem d_Mo_came_13 : decode b_Mo_came 13 = .ok (.iload_n 2, 1) := by decide +kernel
theorem d_Mo_came_14 : decode b_Mo_came 14 = .ok (.invokestatic 140, 3) := by decide +kernel
theorem d_Mo_came_17 : decode b_Mo_came 17 = .ok (.ifCond .eq 13, 3) := by decide +kernel
theorem d_Mo_came_20 : decode b_Mo_came 20 = .ok (.aload_n 0, 1) := by decide +kernel
theorem d_Mo_came_21 : decode b_Mo_came 21 = .ok (.getfield 54, 3) := by decide +kernel
theorem d_Mo_came_24 : decode b_Mo_came 24 = .ok (.iload_n 1, 1) := by decide +kernel
theorem d_Mo_came_25 : decode b_Mo_came 25 = .ok (.iaload, 1) := by decide +kernel
theorem d_Mo_came_26 : decode b_Mo_came 26 = .ok (.iconst (-1), 1) := by decide +kernel
theorem d_Mo_came_27 : decode b_Mo_came 27 = .ok (.if_icmp .eq 5, 3) := by decide +kernel
theorem d_Mo_came_30 : decode b_Mo_came 30 = .ok (.iconst 0, 1) := by decide +kernel
theorem d_Mo_came_31 : decode b_Mo_came 31 = .ok (.ireturn, 1) := by decide +kernel
theorem d_Mo_came_32 : decode b_Mo_came 32 = .ok (.aload_n 0, 1) := by decide +kernel
theorem d_Mo_came_33 : decode b_Mo_came 33 = .ok (.getfield 54, 3) := by decide +kernel
theorem d_Mo_came_36 : decode b_Mo_came 36 = .ok (.iload_n 1, 1) := by decide +kernel
theorem d_Mo_came_37 : decode b_Mo_came 37 = .ok (.iload_n 2, 1) := by decide +kernel
theorem d_Mo_came_38 : decode b_Mo_came 38 = .ok (.iastore, 1) := by decide +kernel
theorem d_Mo_came_39 : decode b_Mo_came 39 = .ok (.iconst 1, 1) := by decide +kernel
theorem d_Mo_came_40 : decode b_Mo_came 40 = .ok (.ireturn, 1) := by decide +kernel
theorem d_Mo_lateOn_0 : decode b_Mo_lateOn 0 = .ok (.aload_n 0, 1) := by decide +kernel
theorem d_Mo_lateOn_1 : decode b_Mo_lateOn 1 = .ok (.getfield 54, 3) := by decide +kernel
theorem d_Mo_lateOn_4 : decode b_Mo_lateOn 4 = .ok (.iload_n 1, 1) := by decide +kernel
theorem d_Mo_lateOn_5 : decode b_Mo_lateOn 5 = .ok (.iaload, 1) := by decide +kernel
theorem d_Mo_lateOn_6 : decode b_Mo_lateOn 6 = .ok (.iconst (-1), 1) := by decide +kernel
theorem d_Mo_lateOn_7 : decode b_Mo_lateOn 7 = .ok (.if_icmp .ne 7, 3) := by decide +kernel
theorem d_Mo_lateOn_10 : decode b_Mo_lateOn 10 = .ok (.iload_n 2, 1) := by decide +kernel
theorem d_Mo_lateOn_11 : decode b_Mo_lateOn 11 = .ok (.goto 9, 3) := by decide +kernel
theorem d_Mo_lateOn_14 : decode b_Mo_lateOn 14 = .ok (.aload_n 0, 1) := by decide +kernel
theorem d_Mo_lateOn_15 : decode b_Mo_lateOn 15 = .ok (.getfield 54, 3) := by decide +kernel
theorem d_Mo_lateOn_18 : decode b_Mo_lateOn 18 = .ok (.iload_n 1, 1) := by decide +kernel
theorem d_Mo_lateOn_19 : decode b_Mo_lateOn 19 = .ok (.iaload, 1) := by decide +kernel
theorem d_Mo_lateOn_20 : decode b_Mo_lateOn 20 = .ok (.aload_n 0, 1) := by decide +kernel
theorem d_Mo_lateOn_21 : decode b_Mo_lateOn 21 = .ok (.getfield 42, 3) := by decide +kernel
theorem d_Mo_lateOn_24 : decode b_Mo_lateOn 24 = .ok (.iload_n 1, 1) := by decide +kernel
theorem d_Mo_lateOn_25 : decode b_Mo_lateOn 25 = .ok (.iaload, 1) := by decide +kernel
theorem d_Mo_lateOn_26 : decode b_Mo_lateOn 26 = .ok (.isub, 1) := by decide +kernel
theorem d_Mo_lateOn_27 : decode b_Mo_lateOn 27 = .ok (.istore_n 3, 1) := by decide +kernel
theorem d_Mo_lateOn_28 : decode b_Mo_lateOn 28 = .ok (.iload_n 3, 1) := by decide +kernel
theorem d_Mo_lateOn_29 : decode b_Mo_lateOn 29 = .ok (.ifCond .le 7, 3) := by decide +kernel
theorem d_Mo_lateOn_32 : decode b_Mo_lateOn 32 = .ok (.iload_n 3, 1) := by decide +kernel
theorem d_Mo_lateOn_33 : decode b_Mo_lateOn 33 = .ok (.goto 4, 3) := by decide +kernel
theorem d_Mo_lateOn_36 : decode b_Mo_lateOn 36 = .ok (.iconst 0, 1) := by decide +kernel
theorem d_Mo_lateOn_37 : decode b_Mo_lateOn 37 = .ok (.ireturn, 1) := by decide +kernel
theorem d_Mo_late_0 : decode b_Mo_late 0 = .ok (.aload_n 0, 1) := by decide +kernel
theorem d_Mo_late_1 : decode b_Mo_late 1 = .ok (.iconst 0, 1) := by decide +kernel
theorem d_Mo_late_2 : decode b_Mo_late 2 = .ok (.putfield 60, 3) := by decide +kernel
theorem d_Mo_late_5 : decode b_Mo_late 5 = .ok (.aload_n 0, 1) := by decide +kernel
theorem d_Mo_late_6 : decode b_Mo_late 6 = .ok (.iload_n 1, 1) := by decide +kernel
theorem d_Mo_late_7 : decode b_Mo_late 7 = .ok (.invokevirtual 160, 3) := by decide +kernel
theorem d_Mo_late_10 : decode b_Mo_late 10 = .ok (.ifCond .eq 19, 3) := by decide +kernel
theorem d_Mo_late_13 : decode b_Mo_late 13 = .ok (.iload_n 2, 1) := by decide +kernel
theorem d_Mo_late_14 : decode b_Mo_late 14 = .ok (.invokestatic 140, 3) := by decide +kernel
theorem d_Mo_late_17 : decode b_Mo_late 17 = .ok (.ifCond .eq 12, 3) := by decide +kernel
theorem d_Mo_late_20 : decode b_Mo_late 20 = .ok (.aload_n 0, 1) := by decide +kernel
theorem d_Mo_late_21 : decode b_Mo_late 21 = .ok (.iload_n 1, 1) := by decide +kernel
theorem d_Mo_late_22 : decode b_Mo_late 22 = .ok (.iload_n 2, 1) := by decide +kernel
theorem d_Mo_late_23 : decode b_Mo_late 23 = .ok (.invokevirtual 166, 3) := by decide +kernel
theorem d_Mo_late_26 : decode b_Mo_late 26 = .ok (.goto 4, 3) := by decide +kernel
theorem d_Mo_late_29 : decode b_Mo_late 29 = .ok (.iconst (-1), 1) := by decide +kernel
theorem d_Mo_late_30 : decode b_Mo_late 30 = .ok (.ireturn, 1) := by decide +kernel
theorem d_Mo_isClaim_0 : decode b_Mo_isClaim 0 = .ok (.aload_n 0, 1) := by decide +kernel
theorem d_Mo_isClaim_1 : decode b_Mo_isClaim 1 = .ok (.getfield 54, 3) := by decide +kernel
theorem d_Mo_isClaim_4 : decode b_Mo_isClaim 4 = .ok (.iload_n 1, 1) := by decide +kernel
theorem d_Mo_isClaim_5 : decode b_Mo_isClaim 5 = .ok (.iaload, 1) := by decide +kernel
theorem d_Mo_isClaim_6 : decode b_Mo_isClaim 6 = .ok (.iconst (-1), 1) := by decide +kernel
theorem d_Mo_isClaim_7 : decode b_Mo_isClaim 7 = .ok (.if_icmp .ne 16, 3) := by decide +kernel
theorem d_Mo_isClaim_10 : decode b_Mo_isClaim 10 = .ok (.aload_n 0, 1) := by decide +kernel
theorem d_Mo_isClaim_11 : decode b_Mo_isClaim 11 = .ok (.iload_n 1, 1) := by decide +kernel
theorem d_Mo_isClaim_12 : decode b_Mo_isClaim 12 = .ok (.iload_n 2, 1) := by decide +kernel
theorem d_Mo_isClaim_13 : decode b_Mo_isClaim 13 = .ok (.invokevirtual 166, 3) := by decide +kernel
theorem d_Mo_isClaim_16 : decode b_Mo_isClaim 16 = .ok (.ifCond .le 7, 3) := by decide +kernel
theorem d_Mo_isClaim_19 : decode b_Mo_isClaim 19 = .ok (.iconst 1, 1) := by decide +kernel
theorem d_Mo_isClaim_20 : decode b_Mo_isClaim 20 = .ok (.goto 4, 3) := by decide +kernel
theorem d_Mo_isClaim_23 : decode b_Mo_isClaim 23 = .ok (.iconst 0, 1) := by decide +kernel
theorem d_Mo_isClaim_24 : decode b_Mo_isClaim 24 = .ok (.ireturn, 1) := by decide +kernel
theorem d_Mo_claim_0 : decode b_Mo_claim 0 = .ok (.aload_n 0, 1) := by decide +kernel
theorem d_Mo_claim_1 : decode b_Mo_claim 1 = .ok (.iconst 0, 1) := by decide +kernel
theorem d_Mo_claim_2 : decode b_Mo_claim 2 = .ok (.putfield 60, 3) := by decide +kernel
theorem d_Mo_claim_5 : decode b_Mo_claim 5 = .ok (.iconst 0, 1) := by decide +kernel
theorem d_Mo_claim_6 : decode b_Mo_claim 6 = .ok (.istore_n 3, 1) := by decide +kernel
theorem d_Mo_claim_7 : decode b_Mo_claim 7 = .ok (.iload_n 3, 1) := by decide +kernel
theorem d_Mo_claim_8 : decode b_Mo_claim 8 = .ok (.aload_n 0, 1) := by decide +kernel
theorem d_Mo_claim_9 : decode b_Mo_claim 9 = .ok (.getfield 150, 3) := by decide +kernel
theorem d_Mo_claim_12 : decode b_Mo_claim 12 = .ok (.if_icmp .ge 116, 3) := by decide +kernel
theorem d_Mo_claim_15 : decode b_Mo_claim 15 = .ok (.iload_n 2, 1) := by decide +kernel
theorem d_Mo_claim_16 : decode b_Mo_claim 16 = .ok (.ifCond .lt 112, 3) := by decide +kernel
theorem d_Mo_claim_19 : decode b_Mo_claim 19 = .ok (.iload_n 1, 1) := by decide +kernel
theorem d_Mo_claim_20 : decode b_Mo_claim 20 = .ok (.invokestatic 140, 3) := by decide +kernel
theorem d_Mo_claim_23 : decode b_Mo_claim 23 = .ok (.ifCond .eq 105, 3) := by decide +kernel
theorem d_Mo_claim_26 : decode b_Mo_claim 26 = .ok (.aload_n 0, 1) := by decide +kernel
theorem d_Mo_claim_27 : decode b_Mo_claim 27 = .ok (.iload_n 3, 1) := by decide +kernel
theorem d_Mo_claim_28 : decode b_Mo_claim 28 = .ok (.iload_n 1, 1) := by decide +kernel
theorem d_Mo_claim_29 : decode b_Mo_claim 29 = .ok (.invokevirtual 169, 3) := by decide +kernel
theorem d_Mo_claim_32 : decode b_Mo_claim 32 = .ok (.ifCond .eq 90, 3) := by decide +kernel
theorem d_Mo_claim_35 : decode b_Mo_claim 35 = .ok (.iconst 0, 1) := by decide +kernel
theorem d_Mo_claim_36 : decode b_Mo_claim 36 = .ok (.istore 4, 2) := by decide +kernel
theorem d_Mo_claim_38 : decode b_Mo_claim 38 = .ok (.iconst 0, 1) := by decide +kernel
theorem d_Mo_claim_39 : decode b_Mo_claim 39 = .ok (.istore 5, 2) := by decide +kernel
theorem d_Mo_claim_41 : decode b_Mo_claim 41 = .ok (.iload 5, 2) := by decide +kernel
theorem d_Mo_claim_43 : decode b_Mo_claim 43 = .ok (.aload_n 0, 1) := by decide +kernel
theorem d_Mo_claim_44 : decode b_Mo_claim 44 = .ok (.getfield 150, 3) := by decide +kernel
theorem d_Mo_claim_47 : decode b_Mo_claim 47 = .ok (.if_icmp .ge 67, 3) := by decide +kernel
theorem d_Mo_claim_50 : decode b_Mo_claim 50 = .ok (.iload 4, 2) := by decide +kernel
theorem d_Mo_claim_52 : decode b_Mo_claim 52 = .ok (.aload_n 0, 1) := by decide +kernel
theorem d_Mo_claim_53 : decode b_Mo_claim 53 = .ok (.iload 5, 2) := by decide +kernel
theorem d_Mo_claim_55 : decode b_Mo_claim 55 = .ok (.iload_n 1, 1) := by decide +kernel
theorem d_Mo_claim_56 : decode b_Mo_claim 56 = .ok (.invokevirtual 169, 3) := by decide +kernel
theorem d_Mo_claim_59 : decode b_Mo_claim 59 = .ok (.ifCond .eq 45, 3) := by decide +kernel
theorem d_Mo_claim_62 : decode b_Mo_claim 62 = .ok (.aload_n 0, 1) := by decide +kernel
theorem d_Mo_claim_63 : decode b_Mo_claim 63 = .ok (.iload 5, 2) := by decide +kernel
theorem d_Mo_claim_65 : decode b_Mo_claim 65 = .ok (.iload_n 1, 1) := by decide +kernel
theorem d_Mo_claim_66 : decode b_Mo_claim 66 = .ok (.invokevirtual 166, 3) := by decide +kernel
theorem d_Mo_claim_69 : decode b_Mo_claim 69 = .ok (.aload_n 0, 1) := by decide +kernel
theorem d_Mo_claim_70 : decode b_Mo_claim 70 = .ok (.iload_n 3, 1) := by decide +kernel
theorem d_Mo_claim_71 : decode b_Mo_claim 71 = .ok (.iload_n 1, 1) := by decide +kernel
theorem d_Mo_claim_72 : decode b_Mo_claim 72 = .ok (.invokevirtual 166, 3) := by decide +kernel
theorem d_Mo_claim_75 : decode b_Mo_claim 75 = .ok (.if_icmp .gt 25, 3) := by decide +kernel
theorem d_Mo_claim_78 : decode b_Mo_claim 78 = .ok (.aload_n 0, 1) := by decide +kernel
theorem d_Mo_claim_79 : decode b_Mo_claim 79 = .ok (.iload 5, 2) := by decide +kernel
theorem d_Mo_claim_81 : decode b_Mo_claim 81 = .ok (.iload_n 1, 1) := by decide +kernel
theorem d_Mo_claim_82 : decode b_Mo_claim 82 = .ok (.invokevirtual 166, 3) := by decide +kernel
theorem d_Mo_claim_85 : decode b_Mo_claim 85 = .ok (.aload_n 0, 1) := by decide +kernel
theorem d_Mo_claim_86 : decode b_Mo_claim 86 = .ok (.iload_n 3, 1) := by decide +kernel
theorem d_Mo_claim_87 : decode b_Mo_claim 87 = .ok (.iload_n 1, 1) := by decide +kernel
theorem d_Mo_claim_88 : decode b_Mo_claim 88 = .ok (.invokevirtual 166, 3) := by decide +kernel
theorem d_Mo_claim_91 : decode b_Mo_claim 91 = .ok (.if_icmp .ne 13, 3) := by decide +kernel
theorem d_Mo_claim_94 : decode b_Mo_claim 94 = .ok (.iload 5, 2) := by decide +kernel
theorem d_Mo_claim_96 : decode b_Mo_claim 96 = .ok (.iload_n 3, 1) := by decide +kernel
theorem d_Mo_claim_97 : decode b_Mo_claim 97 = .ok (.if_icmp .ge 7, 3) := by decide +kernel
theorem d_Mo_claim_100 : decode b_Mo_claim 100 = .ok (.iconst 1, 1) := by decide +kernel
theorem d_Mo_claim_101 : decode b_Mo_claim 101 = .ok (.goto 4, 3) := by decide +kernel
theorem d_Mo_claim_104 : decode b_Mo_claim 104 = .ok (.iconst 0, 1) := by decide +kernel
theorem d_Mo_claim_105 : decode b_Mo_claim 105 = .ok (.iadd, 1) := by decide +kernel
theorem d_Mo_claim_106 : decode b_Mo_claim 106 = .ok (.istore 4, 2) := by decide +kernel
theorem d_Mo_claim_108 : decode b_Mo_claim 108 = .ok (.iinc 5 1, 3) := by decide +kernel
theorem d_Mo_claim_111 : decode b_Mo_claim 111 = .ok (.goto (-70), 3) := by decide +kernel
theorem d_Mo_claim_114 : decode b_Mo_claim 114 = .ok (.iload 4, 2) := by decide +kernel
theorem d_Mo_claim_116 : decode b_Mo_claim 116 = .ok (.iload_n 2, 1) := by decide +kernel
theorem d_Mo_claim_117 : decode b_Mo_claim 117 = .ok (.if_icmp .ne 5, 3) := by decide +kernel
theorem d_Mo_claim_120 : decode b_Mo_claim 120 = .ok (.iload_n 3, 1) := by decide +kernel
theorem d_Mo_claim_121 : decode b_Mo_claim 121 = .ok (.ireturn, 1) := by decide +kernel
theorem d_Mo_claim_122 : decode b_Mo_claim 122 = .ok (.iinc 3 1, 3) := by decide +kernel
theorem d_Mo_claim_125 : decode b_Mo_claim 125 = .ok (.goto (-118), 3) := by decide +kernel
theorem d_Mo_claim_128 : decode b_Mo_claim 128 = .ok (.iconst (-1), 1) := by decide +kernel
theorem d_Mo_claim_129 : decode b_Mo_claim 129 = .ok (.ireturn, 1) := by decide +kernel
theorem d_Mo_print_0 : decode b_Mo_print 0 = .ok (.aload_n 0, 1) := by decide +kernel
theorem d_Mo_print_1 : decode b_Mo_print 1 = .ok (.iconst 0, 1) := by decide +kernel
theorem d_Mo_print_2 : decode b_Mo_print 2 = .ok (.putfield 60, 3) := by decide +kernel
theorem d_Mo_print_5 : decode b_Mo_print 5 = .ok (.aload_n 0, 1) := by decide +kernel
theorem d_Mo_print_6 : decode b_Mo_print 6 = .ok (.iload_n 1, 1) := by decide +kernel
theorem d_Mo_print_7 : decode b_Mo_print 7 = .ok (.invokevirtual 153, 3) := by decide +kernel
theorem d_Mo_print_10 : decode b_Mo_print 10 = .ok (.ifCond .ne 5, 3) := by decide +kernel
theorem d_Mo_print_13 : decode b_Mo_print 13 = .ok (.iconst 0, 1) := by decide +kernel
theorem d_Mo_print_14 : decode b_Mo_print 14 = .ok (.ireturn, 1) := by decide +kernel
theorem d_Mo_print_15 : decode b_Mo_print 15 = .ok (.aload_n 0, 1) := by decide +kernel
theorem d_Mo_print_16 : decode b_Mo_print 16 = .ok (.aload_n 0, 1) := by decide +kernel
theorem d_Mo_print_17 : decode b_Mo_print 17 = .ok (.getfield 33, 3) := by decide +kernel
theorem d_Mo_print_20 : decode b_Mo_print 20 = .ok (.iload_n 1, 1) := by decide +kernel
theorem d_Mo_print_21 : decode b_Mo_print 21 = .ok (.iaload, 1) := by decide +kernel
theorem d_Mo_print_22 : decode b_Mo_print 22 = .ok (.putfield 172, 3) := by decide +kernel
theorem d_Mo_print_25 : decode b_Mo_print 25 = .ok (.iconst 0, 1) := by decide +kernel
theorem d_Mo_print_26 : decode b_Mo_print 26 = .ok (.istore_n 2, 1) := by decide +kernel
theorem d_Mo_print_27 : decode b_Mo_print 27 = .ok (.iload_n 2, 1) := by decide +kernel
theorem d_Mo_print_28 : decode b_Mo_print 28 = .ok (.aload_n 0, 1) := by decide +kernel
theorem d_Mo_print_29 : decode b_Mo_print 29 = .ok (.getfield 172, 3) := by decide +kernel
theorem d_Mo_print_32 : decode b_Mo_print 32 = .ok (.if_icmp .ge 26, 3) := by decide +kernel
theorem d_Mo_print_35 : decode b_Mo_print 35 = .ok (.aload_n 0, 1) := by decide +kernel
theorem d_Mo_print_36 : decode b_Mo_print 36 = .ok (.getfield 57, 3) := by decide +kernel
theorem d_Mo_print_39 : decode b_Mo_print 39 = .ok (.iload_n 2, 1) := by decide +kernel
theorem d_Mo_print_40 : decode b_Mo_print 40 = .ok (.aload_n 0, 1) := by decide +kernel
theorem d_Mo_print_41 : decode b_Mo_print 41 = .ok (.getfield 30, 3) := by decide +kernel
theorem d_Mo_print_44 : decode b_Mo_print 44 = .ok (.bipush 120, 2) := by decide +kernel
theorem d_Mo_print_46 : decode b_Mo_print 46 = .ok (.iload_n 1, 1) := by decide +kernel
theorem d_Mo_print_47 : decode b_Mo_print 47 = .ok (.imul, 1) := by decide +kernel
theorem d_Mo_print_48 : decode b_Mo_print 48 = .ok (.iload_n 2, 1) := by decide +kernel
theorem d_Mo_print_49 : decode b_Mo_print 49 = .ok (.iadd, 1) := by decide +kernel
theorem d_Mo_print_50 : decode b_Mo_print 50 = .ok (.baload, 1) := by decide +kernel
theorem d_Mo_print_51 : decode b_Mo_print 51 = .ok (.bastore, 1) := by decide +kernel
theorem d_Mo_print_52 : decode b_Mo_print 52 = .ok (.iinc 2 1, 3) := by decide +kernel
theorem d_Mo_print_55 : decode b_Mo_print 55 = .ok (.goto (-28), 3) := by decide +kernel
theorem d_Mo_print_58 : decode b_Mo_print 58 = .ok (.aload_n 0, 1) := by decide +kernel
theorem d_Mo_print_59 : decode b_Mo_print 59 = .ok (.getfield 172, 3) := by decide +kernel
theorem d_Mo_print_62 : decode b_Mo_print 62 = .ok (.ireturn, 1) := by decide +kernel
theorem d_Mo_at_0 : decode b_Mo_at 0 = .ok (.aload_n 0, 1) := by decide +kernel
theorem d_Mo_at_1 : decode b_Mo_at 1 = .ok (.iconst 0, 1) := by decide +kernel
theorem d_Mo_at_2 : decode b_Mo_at 2 = .ok (.putfield 60, 3) := by decide +kernel
theorem d_Mo_at_5 : decode b_Mo_at 5 = .ok (.iload_n 1, 1) := by decide +kernel
theorem d_Mo_at_6 : decode b_Mo_at 6 = .ok (.ifCond .lt 11, 3) := by decide +kernel
theorem d_Mo_at_9 : decode b_Mo_at 9 = .ok (.iload_n 1, 1) := by decide +kernel
theorem d_Mo_at_10 : decode b_Mo_at 10 = .ok (.aload_n 0, 1) := by decide +kernel
theorem d_Mo_at_11 : decode b_Mo_at 11 = .ok (.getfield 172, 3) := by decide +kernel
theorem d_Mo_at_14 : decode b_Mo_at 14 = .ok (.if_icmp .lt 7, 3) := by decide +kernel
theorem d_Mo_at_17 : decode b_Mo_at 17 = .ok (.iconst (-1), 1) := by decide +kernel
theorem d_Mo_at_18 : decode b_Mo_at 18 = .ok (.goto 13, 3) := by decide +kernel
theorem d_Mo_at_21 : decode b_Mo_at 21 = .ok (.aload_n 0, 1) := by decide +kernel
theorem d_Mo_at_22 : decode b_Mo_at 22 = .ok (.getfield 57, 3) := by decide +kernel
theorem d_Mo_at_25 : decode b_Mo_at 25 = .ok (.iload_n 1, 1) := by decide +kernel
theorem d_Mo_at_26 : decode b_Mo_at 26 = .ok (.baload, 1) := by decide +kernel
theorem d_Mo_at_27 : decode b_Mo_at 27 = .ok (.sipush 255, 3) := by decide +kernel
theorem d_Mo_at_30 : decode b_Mo_at 30 = .ok (.iand, 1) := by decide +kernel
theorem d_Mo_at_31 : decode b_Mo_at 31 = .ok (.ireturn, 1) := by decide +kernel
theorem d_Mo_yearly_0 : decode b_Mo_yearly 0 = .ok (.aload_n 0, 1) := by decide +kernel
theorem d_Mo_yearly_1 : decode b_Mo_yearly 1 = .ok (.iconst 0, 1) := by decide +kernel
theorem d_Mo_yearly_2 : decode b_Mo_yearly 2 = .ok (.putfield 60, 3) := by decide +kernel
theorem d_Mo_yearly_5 : decode b_Mo_yearly 5 = .ok (.aload_n 0, 1) := by decide +kernel
theorem d_Mo_yearly_6 : decode b_Mo_yearly 6 = .ok (.iload_n 1, 1) := by decide +kernel
theorem d_Mo_yearly_7 : decode b_Mo_yearly 7 = .ok (.invokevirtual 153, 3) := by decide +kernel
theorem d_Mo_yearly_10 : decode b_Mo_yearly 10 = .ok (.ifCond .eq 10, 3) := by decide +kernel
theorem d_Mo_yearly_13 : decode b_Mo_yearly 13 = .ok (.iload_n 2, 1) := by decide +kernel
theorem d_Mo_yearly_14 : decode b_Mo_yearly 14 = .ok (.invokestatic 140, 3) := by decide +kernel
theorem d_Mo_yearly_17 : decode b_Mo_yearly 17 = .ok (.ifCond .ne 5, 3) := by decide +kernel
theorem d_Mo_yearly_20 : decode b_Mo_yearly 20 = .ok (.iconst (-1), 1) := by decide +kernel
theorem d_Mo_yearly_21 : decode b_Mo_yearly 21 = .ok (.ireturn, 1) := by decide +kernel
theorem d_Mo_yearly_22 : decode b_Mo_yearly 22 = .ok (.iload_n 3, 1) := by decide +kernel
theorem d_Mo_yearly_23 : decode b_Mo_yearly 23 = .ok (.ifCond .ne 10, 3) := by decide +kernel
theorem d_Mo_yearly_26 : decode b_Mo_yearly 26 = .ok (.aload_n 0, 1) := by decide +kernel
theorem d_Mo_yearly_27 : decode b_Mo_yearly 27 = .ok (.iconst 1, 1) := by decide +kernel
theorem d_Mo_yearly_28 : decode b_Mo_yearly 28 = .ok (.putfield 60, 3) := by decide +kernel
theorem d_Mo_yearly_31 : decode b_Mo_yearly 31 = .ok (.iconst 0, 1) := by decide +kernel
theorem d_Mo_yearly_32 : decode b_Mo_yearly 32 = .ok (.ireturn, 1) := by decide +kernel
theorem d_Mo_yearly_33 : decode b_Mo_yearly 33 = .ok (.iconst 0, 1) := by decide +kernel
theorem d_Mo_yearly_34 : decode b_Mo_yearly 34 = .ok (.istore 4, 2) := by decide +kernel
theorem d_Mo_yearly_36 : decode b_Mo_yearly 36 = .ok (.iload_n 2, 1) := by decide +kernel
theorem d_Mo_yearly_37 : decode b_Mo_yearly 37 = .ok (.istore 5, 2) := by decide +kernel
theorem d_Mo_yearly_39 : decode b_Mo_yearly 39 = .ok (.iload 5, 2) := by decide +kernel
theorem d_Mo_yearly_41 : decode b_Mo_yearly 41 = .ok (.iload_n 2, 1) := by decide +kernel
theorem d_Mo_yearly_42 : decode b_Mo_yearly 42 = .ok (.sipush 360, 3) := by decide +kernel
theorem d_Mo_yearly_45 : decode b_Mo_yearly 45 = .ok (.iadd, 1) := by decide +kernel
theorem d_Mo_yearly_46 : decode b_Mo_yearly 46 = .ok (.if_icmp .ge 44, 3) := by decide +kernel
theorem d_Mo_yearly_49 : decode b_Mo_yearly 49 = .ok (.iload 5, 2) := by decide +kernel
theorem d_Mo_yearly_51 : decode b_Mo_yearly 51 = .ok (.ldc 136, 2) := by decide +kernel
theorem d_Mo_yearly_53 : decode b_Mo_yearly 53 = .ok (.if_icmp .gt 37, 3) := by decide +kernel
theorem d_Mo_yearly_56 : decode b_Mo_yearly 56 = .ok (.iload 4, 2) := by decide +kernel
theorem d_Mo_yearly_58 : decode b_Mo_yearly 58 = .ok (.aload_n 0, 1) := by decide +kernel
theorem d_Mo_yearly_59 : decode b_Mo_yearly 59 = .ok (.iload_n 1, 1) := by decide +kernel
theorem d_Mo_yearly_60 : decode b_Mo_yearly 60 = .ok (.iload 5, 2) := by decide +kernel
theorem d_Mo_yearly_62 : decode b_Mo_yearly 62 = .ok (.invokevirtual 146, 3) := by decide +kernel
theorem d_Mo_yearly_65 : decode b_Mo_yearly 65 = .ok (.ifCond .eq 7, 3) := by decide +kernel
theorem d_Mo_yearly_68 : decode b_Mo_yearly 68 = .ok (.iconst 1, 1) := by decide +kernel
theorem d_Mo_yearly_69 : decode b_Mo_yearly 69 = .ok (.goto 4, 3) := by decide +kernel
theorem d_Mo_yearly_72 : decode b_Mo_yearly 72 = .ok (.iconst 0, 1) := by decide +kernel
theorem d_Mo_yearly_73 : decode b_Mo_yearly 73 = .ok (.iadd, 1) := by decide +kernel
theorem d_Mo_yearly_74 : decode b_Mo_yearly 74 = .ok (.istore 4, 2) := by decide +kernel
theorem d_Mo_yearly_76 : decode b_Mo_yearly 76 = .ok (.iload 5, 2) := by decide +kernel
theorem d_Mo_yearly_78 : decode b_Mo_yearly 78 = .ok (.aload_n 0, 1) := by decide +kernel
theorem d_Mo_yearly_79 : decode b_Mo_yearly 79 = .ok (.getfield 13, 3) := by decide +kernel
theorem d_Mo_yearly_82 : decode b_Mo_yearly 82 = .ok (.iload_n 1, 1) := by decide +kernel
theorem d_Mo_yearly_83 : decode b_Mo_yearly 83 = .ok (.iaload, 1) := by decide +kernel
theorem d_Mo_yearly_84 : decode b_Mo_yearly 84 = .ok (.iadd, 1) := by decide +kernel
theorem d_Mo_yearly_85 : decode b_Mo_yearly 85 = .ok (.istore 5, 2) := by decide +kernel
theorem d_Mo_yearly_87 : decode b_Mo_yearly 87 = .ok (.goto (-48), 3) := by decide +kernel
theorem d_Mo_yearly_90 : decode b_Mo_yearly 90 = .ok (.iload 4, 2) := by decide +kernel
theorem d_Mo_yearly_92 : decode b_Mo_yearly 92 = .ok (.iload_n 3, 1) := by decide +kernel
theorem d_Mo_yearly_93 : decode b_Mo_yearly 93 = .ok (.idiv, 1) := by decide +kernel
theorem d_Mo_yearly_94 : decode b_Mo_yearly 94 = .ok (.ireturn, 1) := by decide +kernel
