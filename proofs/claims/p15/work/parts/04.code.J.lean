/-! decode rows of java.lang.String -/
theorem d_Js_length_0 : decode b_Js_length 0 = .ok (.aload_n 0, 1) := by decide +kernel
theorem d_Js_length_1 : decode b_Js_length 1 = .ok (.getfield 9, 3) := by decide +kernel
theorem d_Js_length_4 : decode b_Js_length 4 = .ok (.arraylength, 1) := by decide +kernel
theorem d_Js_length_5 : decode b_Js_length 5 = .ok (.aload_n 0, 1) := by decide +kernel
theorem d_Js_length_6 : decode b_Js_length 6 = .ok (.invokevirtual 335, 3) := by decide +kernel
theorem d_Js_length_9 : decode b_Js_length 9 = .ok (.ishr, 1) := by decide +kernel
theorem d_Js_length_10 : decode b_Js_length 10 = .ok (.ireturn, 1) := by decide +kernel
theorem d_Js_coder_0 : decode b_Js_coder 0 = .ok (.getstatic 38, 3) := by decide +kernel
theorem d_Js_coder_3 : decode b_Js_coder 3 = .ok (.ifCond .eq 10, 3) := by decide +kernel
theorem d_Js_coder_6 : decode b_Js_coder 6 = .ok (.aload_n 0, 1) := by decide +kernel
theorem d_Js_coder_7 : decode b_Js_coder 7 = .ok (.getfield 15, 3) := by decide +kernel
theorem d_Js_coder_10 : decode b_Js_coder 10 = .ok (.goto 4, 3) := by decide +kernel
theorem d_Js_coder_13 : decode b_Js_coder 13 = .ok (.iconst 1, 1) := by decide +kernel
theorem d_Js_coder_14 : decode b_Js_coder 14 = .ok (.ireturn, 1) := by decide +kernel
theorem d_Js_isLatin1_0 : decode b_Js_isLatin1 0 = .ok (.getstatic 38, 3) := by decide +kernel
theorem d_Js_isLatin1_3 : decode b_Js_isLatin1 3 = .ok (.ifCond .eq 14, 3) := by decide +kernel
theorem d_Js_isLatin1_6 : decode b_Js_isLatin1 6 = .ok (.aload_n 0, 1) := by decide +kernel
theorem d_Js_isLatin1_7 : decode b_Js_isLatin1 7 = .ok (.getfield 15, 3) := by decide +kernel
theorem d_Js_isLatin1_10 : decode b_Js_isLatin1 10 = .ok (.ifCond .ne 7, 3) := by decide +kernel
theorem d_Js_isLatin1_13 : decode b_Js_isLatin1 13 = .ok (.iconst 1, 1) := by decide +kernel
theorem d_Js_isLatin1_14 : decode b_Js_isLatin1 14 = .ok (.goto 4, 3) := by decide +kernel
theorem d_Js_isLatin1_17 : decode b_Js_isLatin1 17 = .ok (.iconst 0, 1) := by decide +kernel
theorem d_Js_isLatin1_18 : decode b_Js_isLatin1 18 = .ok (.ireturn, 1) := by decide +kernel
theorem d_Js_charAt_0 : decode b_Js_charAt 0 = .ok (.aload_n 0, 1) := by decide +kernel
theorem d_Js_charAt_1 : decode b_Js_charAt 1 = .ok (.invokevirtual 492, 3) := by decide +kernel
theorem d_Js_charAt_4 : decode b_Js_charAt 4 = .ok (.ifCond .eq 12, 3) := by decide +kernel
theorem d_Js_charAt_7 : decode b_Js_charAt 7 = .ok (.aload_n 0, 1) := by decide +kernel
theorem d_Js_charAt_8 : decode b_Js_charAt 8 = .ok (.getfield 9, 3) := by decide +kernel
theorem d_Js_charAt_11 : decode b_Js_charAt 11 = .ok (.iload_n 1, 1) := by decide +kernel
theorem d_Js_charAt_12 : decode b_Js_charAt 12 = .ok (.invokestatic 495, 3) := by decide +kernel
theorem d_Js_charAt_15 : decode b_Js_charAt 15 = .ok (.ireturn, 1) := by decide +kernel
theorem d_Js_checkIndex_0 : decode b_Js_checkIndex 0 = .ok (.iload_n 0, 1) := by decide +kernel
theorem d_Js_checkIndex_1 : decode b_Js_checkIndex 1 = .ok (.iload_n 1, 1) := by decide +kernel
theorem d_Js_checkIndex_2 : decode b_Js_checkIndex 2 = .ok (.getstatic 1053, 3) := by decide +kernel
theorem d_Js_checkIndex_5 : decode b_Js_checkIndex 5 = .ok (.invokestatic 1059, 3) := by decide +kernel
theorem d_Js_checkIndex_8 : decode b_Js_checkIndex 8 = .ok (.pop, 1) := by decide +kernel
theorem d_Js_checkIndex_9 : decode b_Js_checkIndex 9 = .ok (.return_, 1) := by decide +kernel
/-! decode rows of java.lang.StringLatin1 -/
theorem d_Jl_charAt_0 : decode b_Jl_charAt 0 = .ok (.iload_n 1, 1) := by decide +kernel
theorem d_Jl_charAt_1 : decode b_Jl_charAt 1 = .ok (.aload_n 0, 1) := by decide +kernel
theorem d_Jl_charAt_2 : decode b_Jl_charAt 2 = .ok (.arraylength, 1) := by decide +kernel
theorem d_Jl_charAt_3 : decode b_Jl_charAt 3 = .ok (.invokestatic 9, 3) := by decide +kernel
theorem d_Jl_charAt_6 : decode b_Jl_charAt 6 = .ok (.aload_n 0, 1) := by decide +kernel
theorem d_Jl_charAt_7 : decode b_Jl_charAt 7 = .ok (.iload_n 1, 1) := by decide +kernel
theorem d_Jl_charAt_8 : decode b_Jl_charAt 8 = .ok (.baload, 1) := by decide +kernel
theorem d_Jl_charAt_9 : decode b_Jl_charAt 9 = .ok (.sipush 255, 3) := by decide +kernel
theorem d_Jl_charAt_12 : decode b_Jl_charAt 12 = .ok (.iand, 1) := by decide +kernel
theorem d_Jl_charAt_13 : decode b_Jl_charAt 13 = .ok (.i2c, 1) := by decide +kernel
theorem d_Jl_charAt_14 : decode b_Jl_charAt 14 = .ok (.ireturn, 1) := by decide +kernel
/-! decode rows of jdk.internal.util.Preconditions -/
theorem d_Jp_checkIndex_0 : decode b_Jp_checkIndex 0 = .ok (.iload_n 0, 1) := by decide +kernel
theorem d_Jp_checkIndex_1 : decode b_Jp_checkIndex 1 = .ok (.ifCond .lt 8, 3) := by decide +kernel
theorem d_Jp_checkIndex_4 : decode b_Jp_checkIndex 4 = .ok (.iload_n 0, 1) := by decide +kernel
theorem d_Jp_checkIndex_5 : decode b_Jp_checkIndex 5 = .ok (.iload_n 1, 1) := by decide +kernel
theorem d_Jp_checkIndex_6 : decode b_Jp_checkIndex 6 = .ok (.if_icmp .lt 10, 3) := by decide +kernel
theorem d_Jp_checkIndex_16 : decode b_Jp_checkIndex 16 = .ok (.iload_n 0, 1) := by decide +kernel
theorem d_Jp_checkIndex_17 : decode b_Jp_checkIndex 17 = .ok (.ireturn, 1) := by decide +kernel
