/-! decode rows of PatternText$Holidays -/
theorem d_Ho_init_0 : decode b_Ho_init 0 = .ok (.aload_n 0, 1) := by decide +kernel
theorem d_Ho_init_1 : decode b_Ho_init 1 = .ok (.invokespecial 3, 3) := by decide +kernel
theorem d_Ho_init_4 : decode b_Ho_init 4 = .ok (.aload_n 0, 1) := by decide +kernel
theorem d_Ho_init_5 : decode b_Ho_init 5 = .ok (.bipush 60, 2) := by decide +kernel
theorem d_Ho_init_7 : decode b_Ho_init 7 = .ok (.newarray .int, 2) := by decide +kernel
theorem d_Ho_init_9 : decode b_Ho_init 9 = .ok (.putfield 9, 3) := by decide +kernel
theorem d_Ho_init_12 : decode b_Ho_init 12 = .ok (.aload_n 0, 1) := by decide +kernel
theorem d_Ho_init_13 : decode b_Ho_init 13 = .ok (.iconst 0, 1) := by decide +kernel
theorem d_Ho_init_14 : decode b_Ho_init 14 = .ok (.putfield 15, 3) := by decide +kernel
theorem d_Ho_init_17 : decode b_Ho_init 17 = .ok (.return_, 1) := by decide +kernel
theorem d_Ho_add_0 : decode b_Ho_add 0 = .ok (.aload_n 0, 1) := by decide +kernel
theorem d_Ho_add_1 : decode b_Ho_add 1 = .ok (.getfield 15, 3) := by decide +kernel
theorem d_Ho_add_4 : decode b_Ho_add 4 = .ok (.bipush 60, 2) := by decide +kernel
theorem d_Ho_add_6 : decode b_Ho_add 6 = .ok (.if_icmp .ge 12, 3) := by decide +kernel
theorem d_Ho_add_9 : decode b_Ho_add 9 = .ok (.aload_n 0, 1) := by decide +kernel
theorem d_Ho_add_10 : decode b_Ho_add 10 = .ok (.iload_n 1, 1) := by decide +kernel
theorem d_Ho_add_11 : decode b_Ho_add 11 = .ok (.invokevirtual 19, 3) := by decide +kernel
theorem d_Ho_add_14 : decode b_Ho_add 14 = .ok (.iload_n 1, 1) := by decide +kernel
theorem d_Ho_add_15 : decode b_Ho_add 15 = .ok (.if_icmp .eq 5, 3) := by decide +kernel
theorem d_Ho_add_18 : decode b_Ho_add 18 = .ok (.iconst 0, 1) := by decide +kernel
theorem d_Ho_add_19 : decode b_Ho_add 19 = .ok (.ireturn, 1) := by decide +kernel
theorem d_Ho_add_20 : decode b_Ho_add 20 = .ok (.aload_n 0, 1) := by decide +kernel
theorem d_Ho_add_21 : decode b_Ho_add 21 = .ok (.getfield 15, 3) := by decide +kernel
theorem d_Ho_add_24 : decode b_Ho_add 24 = .ok (.istore_n 2, 1) := by decide +kernel
theorem d_Ho_add_25 : decode b_Ho_add 25 = .ok (.iload_n 2, 1) := by decide +kernel
theorem d_Ho_add_26 : decode b_Ho_add 26 = .ok (.ifCond .le 35, 3) := by decide +kernel
theorem d_Ho_add_29 : decode b_Ho_add 29 = .ok (.aload_n 0, 1) := by decide +kernel
theorem d_Ho_add_30 : decode b_Ho_add 30 = .ok (.getfield 9, 3) := by decide +kernel
theorem d_Ho_add_33 : decode b_Ho_add 33 = .ok (.iload_n 2, 1) := by decide +kernel
theorem d_Ho_add_34 : decode b_Ho_add 34 = .ok (.iconst 1, 1) := by decide +kernel
theorem d_Ho_add_35 : decode b_Ho_add 35 = .ok (.isub, 1) := by decide +kernel
theorem d_Ho_add_36 : decode b_Ho_add 36 = .ok (.iaload, 1) := by decide +kernel
theorem d_Ho_add_37 : decode b_Ho_add 37 = .ok (.iload_n 1, 1) := by decide +kernel
theorem d_Ho_add_38 : decode b_Ho_add 38 = .ok (.if_icmp .le 23, 3) := by decide +kernel
theorem d_Ho_add_41 : decode b_Ho_add 41 = .ok (.aload_n 0, 1) := by decide +kernel
theorem d_Ho_add_42 : decode b_Ho_add 42 = .ok (.getfield 9, 3) := by decide +kernel
theorem d_Ho_add_45 : decode b_Ho_add 45 = .ok (.iload_n 2, 1) := by decide +kernel
theorem d_Ho_add_46 : decode b_Ho_add 46 = .ok (.aload_n 0, 1) := by decide +kernel
theorem d_Ho_add_47 : decode b_Ho_add 47 = .ok (.getfield 9, 3) := by decide +kernel
theorem d_Ho_add_50 : decode b_Ho_add 50 = .ok (.iload_n 2, 1) := by decide +kernel
theorem d_Ho_add_51 : decode b_Ho_add 51 = .ok (.iconst 1, 1) := by decide +kernel
theorem d_Ho_add_52 : decode b_Ho_add 52 = .ok (.isub, 1) := by decide +kernel
theorem d_Ho_add_53 : decode b_Ho_add 53 = .ok (.iaload, 1) := by decide +kernel
theorem d_Ho_add_54 : decode b_Ho_add 54 = .ok (.iastore, 1) := by decide +kernel
theorem d_Ho_add_55 : decode b_Ho_add 55 = .ok (.iinc 2 (-1), 3) := by decide +kernel
theorem d_Ho_add_58 : decode b_Ho_add 58 = .ok (.goto (-33), 3) := by decide +kernel
theorem d_Ho_add_61 : decode b_Ho_add 61 = .ok (.aload_n 0, 1) := by decide +kernel
theorem d_Ho_add_62 : decode b_Ho_add 62 = .ok (.getfield 9, 3) := by decide +kernel
theorem d_Ho_add_65 : decode b_Ho_add 65 = .ok (.iload_n 2, 1) := by decide +kernel
theorem d_Ho_add_66 : decode b_Ho_add 66 = .ok (.iload_n 1, 1) := by decide +kernel
theorem d_Ho_add_67 : decode b_Ho_add 67 = .ok (.iastore, 1) := by decide +kernel
theorem d_Ho_add_68 : decode b_Ho_add 68 = .ok (.aload_n 0, 1) := by decide +kernel
theorem d_Ho_add_69 : decode b_Ho_add 69 = .ok (.dup, 1) := by decide +kernel
theorem d_Ho_add_70 : decode b_Ho_add 70 = .ok (.getfield 15, 3) := by decide +kernel
theorem d_Ho_add_73 : decode b_Ho_add 73 = .ok (.iconst 1, 1) := by decide +kernel
theorem d_Ho_add_74 : decode b_Ho_add 74 = .ok (.iadd, 1) := by decide +kernel
theorem d_Ho_add_75 : decode b_Ho_add 75 = .ok (.putfield 15, 3) := by decide +kernel
theorem d_Ho_add_78 : decode b_Ho_add 78 = .ok (.iconst 1, 1) := by decide +kernel
theorem d_Ho_add_79 : decode b_Ho_add 79 = .ok (.ireturn, 1) := by decide +kernel
theorem d_Ho_dayFrom_0 : decode b_Ho_dayFrom 0 = .ok (.iload_n 1, 1) := by decide +kernel
theorem d_Ho_dayFrom_1 : decode b_Ho_dayFrom 1 = .ok (.istore_n 2, 1) := by decide +kernel
theorem d_Ho_dayFrom_2 : decode b_Ho_dayFrom 2 = .ok (.iconst 0, 1) := by decide +kernel
theorem d_Ho_dayFrom_3 : decode b_Ho_dayFrom 3 = .ok (.istore_n 3, 1) := by decide +kernel
theorem d_Ho_dayFrom_4 : decode b_Ho_dayFrom 4 = .ok (.iload_n 3, 1) := by decide +kernel
theorem d_Ho_dayFrom_5 : decode b_Ho_dayFrom 5 = .ok (.aload_n 0, 1) := by decide +kernel
theorem d_Ho_dayFrom_6 : decode b_Ho_dayFrom 6 = .ok (.getfield 15, 3) := by decide +kernel
theorem d_Ho_dayFrom_9 : decode b_Ho_dayFrom 9 = .ok (.if_icmp .ge 22, 3) := by decide +kernel
theorem d_Ho_dayFrom_12 : decode b_Ho_dayFrom 12 = .ok (.aload_n 0, 1) := by decide +kernel
theorem d_Ho_dayFrom_13 : decode b_Ho_dayFrom 13 = .ok (.getfield 9, 3) := by decide +kernel
theorem d_Ho_dayFrom_16 : decode b_Ho_dayFrom 16 = .ok (.iload_n 3, 1) := by decide +kernel
theorem d_Ho_dayFrom_17 : decode b_Ho_dayFrom 17 = .ok (.iaload, 1) := by decide +kernel
theorem d_Ho_dayFrom_18 : decode b_Ho_dayFrom 18 = .ok (.iload_n 2, 1) := by decide +kernel
theorem d_Ho_dayFrom_19 : decode b_Ho_dayFrom 19 = .ok (.if_icmp .ne 6, 3) := by decide +kernel
theorem d_Ho_dayFrom_22 : decode b_Ho_dayFrom 22 = .ok (.iinc 2 1, 3) := by decide +kernel
theorem d_Ho_dayFrom_25 : decode b_Ho_dayFrom 25 = .ok (.iinc 3 1, 3) := by decide +kernel
theorem d_Ho_dayFrom_28 : decode b_Ho_dayFrom 28 = .ok (.goto (-24), 3) := by decide +kernel
theorem d_Ho_dayFrom_31 : decode b_Ho_dayFrom 31 = .ok (.iload_n 2, 1) := by decide +kernel
theorem d_Ho_dayFrom_32 : decode b_Ho_dayFrom 32 = .ok (.ireturn, 1) := by decide +kernel
