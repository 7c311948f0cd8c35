theorem q_1218 : Cond.classLink RX11 260 "java/util/NoSuchElementException" ∈ zTb := zq_5 160 (by decide +kernel) rfl
theorem q_124 : Cond.initialized "java/util/NoSuchElementException" ∈ zTb := zq_1 26 (by decide +kernel) rfl
theorem q_1279 : Cond.methodLink RX11 263 yX11_isAtRest ∈ zTb := zq_5 221 (by decide +kernel) rfl
theorem q_1213 : Cond.classLink RL 13 "java/util/NoSuchElementException" ∈ zTb := zq_5 155 (by decide +kernel) rfl
theorem q_1214 : Cond.methodLink RL 7 yX11_rests ∈ zTb := zq_5 156 (by decide +kernel) rfl
theorem q_1210 : Cond.methodLink RL 128 yL_rests ∈ zTb := zq_5 152 (by decide +kernel) rfl
theorem q_1211 : Cond.static yL_rests ∈ zTb := zq_5 153 (by decide +kernel) rfl
theorem q_98 : Cond.initialized RL ∈ zTb := zq_1 0 (by decide +kernel) rfl
theorem q_1212 : Cond.codeWith yL_rests cL_rests 7 (some .int) [(0, 14, 17, 13)] ∈ zTb := zq_5 154 (by decide +kernel) rfl
theorem q_1215 : Cond.instanceMethod yX11_rests ∈ zTb := zq_5 157 (by decide +kernel) rfl
theorem q_1216 : Cond.selects RX11 yX11_rests yX11_rests ∈ zTb := zq_5 158 (by decide +kernel) rfl
theorem q_1217 : Cond.code yX11_rests cX11_rests 7 (some .int) ∈ zTb := zq_5 159 (by decide +kernel) rfl
theorem sv_X11_rests : zVf yX11_rests cX11_rests 7 (some .int) 10 4 := ⟨TX11, 10, by decide, rfl, q_1215, q_1216, q_99, q_1217, ⟨by decide +kernel, by decide +kernel, by decide +kernel⟩⟩
theorem q_1280 : Cond.static yX11_isAtRest ∈ zTb := zq_5 222 (by decide +kernel) rfl
theorem q_1281 : Cond.code yX11_isAtRest cX11_isAtRest 6 (some .boolean) ∈ zTb := zq_5 223 (by decide +kernel) rfl
theorem ss_X11_isAtRest : zSf yX11_isAtRest cX11_isAtRest 6 (some .boolean) 4 := ⟨q_1280, q_99, q_1281, ⟨by decide +kernel, by decide +kernel, by decide +kernel⟩⟩
theorem qx_cl : Cond.classLink RX11 260 "java/util/NoSuchElementException" ∈ zTb := q_1218
theorem qx_in : Cond.initialized "java/util/NoSuchElementException" ∈ zTb := q_124
theorem qx_222 : Cond.methodLink RX11 222 yX11_isDigit ∈ zTb := q_1118
theorem qx_263 : Cond.methodLink RX11 263 yX11_isAtRest ∈ zTb := q_1279
theorem qx_cl13 : Cond.classLink RL 13 "java/util/NoSuchElementException" ∈ zTb := q_1213
theorem qx_7 : Cond.methodLink RL 7 yX11_rests ∈ zTb := q_1214
theorem qx_128 : Cond.methodLink RL 128 yL_rests ∈ zTb := q_1210
theorem qx_st : Cond.static yL_rests ∈ zTb := q_1211
theorem qx_inL : Cond.initialized RL ∈ zTb := q_98
theorem qx_cw : Cond.codeWith yL_rests cL_rests 7 (some .int) [(0, 14, 17, 13)] ∈ zTb := q_1212
theorem dX11_rests_0 : decode cX11_rests 0 = .ok (.iload_n 1, 1) := by decide +kernel
theorem dX11_rests_1 : decode cX11_rests 1 = .ok (.invokestatic 222, 3) := by decide +kernel
theorem dX11_rests_4 : decode cX11_rests 4 = .ok (.ifCond .eq 23, 3) := by decide +kernel
theorem dX11_rests_7 : decode cX11_rests 7 = .ok (.iload_n 2, 1) := by decide +kernel
theorem dX11_rests_8 : decode cX11_rests 8 = .ok (.invokestatic 222, 3) := by decide +kernel
theorem dX11_rests_11 : decode cX11_rests 11 = .ok (.ifCond .eq 16, 3) := by decide +kernel
theorem dX11_rests_14 : decode cX11_rests 14 = .ok (.iload_n 3, 1) := by decide +kernel
theorem dX11_rests_15 : decode cX11_rests 15 = .ok (.invokestatic 222, 3) := by decide +kernel
theorem dX11_rests_18 : decode cX11_rests 18 = .ok (.ifCond .eq 9, 3) := by decide +kernel
theorem dX11_rests_21 : decode cX11_rests 21 = .ok (.iload 4, 2) := by decide +kernel
theorem dX11_rests_23 : decode cX11_rests 23 = .ok (.iconst (-1), 1) := by decide +kernel
theorem dX11_rests_24 : decode cX11_rests 24 = .ok (.if_icmp .ge 11, 3) := by decide +kernel
theorem dX11_rests_27 : decode cX11_rests 27 = .ok (.new 260, 3) := by decide +kernel
theorem dX11_rests_30 : decode cX11_rests 30 = .ok (.dup, 1) := by decide +kernel
theorem dX11_rests_31 : decode cX11_rests 31 = .ok (.invokespecial 262, 3) := by decide +kernel
theorem dX11_rests_34 : decode cX11_rests 34 = .ok (.athrow, 1) := by decide +kernel
theorem dX11_rests_35 : decode cX11_rests 35 = .ok (.iconst 0, 1) := by decide +kernel
theorem dX11_rests_36 : decode cX11_rests 36 = .ok (.istore 5, 2) := by decide +kernel
theorem dX11_rests_38 : decode cX11_rests 38 = .ok (.iconst 0, 1) := by decide +kernel
theorem dX11_rests_39 : decode cX11_rests 39 = .ok (.istore 6, 2) := by decide +kernel
theorem dX11_rests_41 : decode cX11_rests 41 = .ok (.iload 6, 2) := by decide +kernel
theorem dX11_rests_43 : decode cX11_rests 43 = .ok (.iconst 4, 1) := by decide +kernel
theorem dX11_rests_44 : decode cX11_rests 44 = .ok (.if_icmp .ge 33, 3) := by decide +kernel
theorem dX11_rests_47 : decode cX11_rests 47 = .ok (.iload_n 1, 1) := by decide +kernel
theorem dX11_rests_48 : decode cX11_rests 48 = .ok (.iload_n 2, 1) := by decide +kernel
theorem dX11_rests_49 : decode cX11_rests 49 = .ok (.iload_n 3, 1) := by decide +kernel
theorem dX11_rests_50 : decode cX11_rests 50 = .ok (.iload 6, 2) := by decide +kernel
theorem dX11_rests_52 : decode cX11_rests 52 = .ok (.invokestatic 263, 3) := by decide +kernel
theorem dX11_rests_55 : decode cX11_rests 55 = .ok (.ifCond .eq 16, 3) := by decide +kernel
theorem dX11_rests_58 : decode cX11_rests 58 = .ok (.iload 5, 2) := by decide +kernel
theorem dX11_rests_60 : decode cX11_rests 60 = .ok (.iload 4, 2) := by decide +kernel
theorem dX11_rests_62 : decode cX11_rests 62 = .ok (.if_icmp .ne 6, 3) := by decide +kernel
theorem dX11_rests_65 : decode cX11_rests 65 = .ok (.iload 6, 2) := by decide +kernel
theorem dX11_rests_67 : decode cX11_rests 67 = .ok (.ireturn, 1) := by decide +kernel
theorem dX11_rests_68 : decode cX11_rests 68 = .ok (.iinc 5 1, 3) := by decide +kernel
theorem dX11_rests_71 : decode cX11_rests 71 = .ok (.iinc 6 1, 3) := by decide +kernel
theorem dX11_rests_74 : decode cX11_rests 74 = .ok (.goto (-33), 3) := by decide +kernel
theorem dX11_rests_77 : decode cX11_rests 77 = .ok (.iload 4, 2) := by decide +kernel
theorem dX11_rests_79 : decode cX11_rests 79 = .ok (.iconst (-1), 1) := by decide +kernel
theorem dX11_rests_80 : decode cX11_rests 80 = .ok (.if_icmp .eq 11, 3) := by decide +kernel
theorem dX11_rests_83 : decode cX11_rests 83 = .ok (.new 260, 3) := by decide +kernel
theorem dX11_rests_86 : decode cX11_rests 86 = .ok (.dup, 1) := by decide +kernel
theorem dX11_rests_87 : decode cX11_rests 87 = .ok (.invokespecial 262, 3) := by decide +kernel
theorem dX11_rests_90 : decode cX11_rests 90 = .ok (.athrow, 1) := by decide +kernel
theorem dX11_rests_91 : decode cX11_rests 91 = .ok (.iload 5, 2) := by decide +kernel
theorem dX11_rests_93 : decode cX11_rests 93 = .ok (.ireturn, 1) := by decide +kernel
theorem dL_rests_0 : decode cL_rests 0 = .ok (.aload 5, 2) := by decide +kernel
theorem dL_rests_2 : decode cL_rests 2 = .ok (.iconst 0, 1) := by decide +kernel
theorem dL_rests_3 : decode cL_rests 3 = .ok (.aload_n 0, 1) := by decide +kernel
theorem dL_rests_4 : decode cL_rests 4 = .ok (.iload_n 1, 1) := by decide +kernel
theorem dL_rests_5 : decode cL_rests 5 = .ok (.iload_n 2, 1) := by decide +kernel
theorem dL_rests_6 : decode cL_rests 6 = .ok (.iload_n 3, 1) := by decide +kernel
theorem dL_rests_7 : decode cL_rests 7 = .ok (.iload 4, 2) := by decide +kernel
theorem dL_rests_9 : decode cL_rests 9 = .ok (.invokevirtual 7, 3) := by decide +kernel
theorem dL_rests_12 : decode cL_rests 12 = .ok (.i2l, 1) := by decide +kernel
theorem dL_rests_13 : decode cL_rests 13 = .ok (.lastore, 1) := by decide +kernel
theorem dL_rests_14 : decode cL_rests 14 = .ok (.goto 7, 3) := by decide +kernel
theorem dL_rests_17 : decode cL_rests 17 = .ok (.astore 6, 2) := by decide +kernel
theorem dL_rests_19 : decode cL_rests 19 = .ok (.iconst 1, 1) := by decide +kernel
theorem dL_rests_20 : decode cL_rests 20 = .ok (.ireturn, 1) := by decide +kernel
theorem dL_rests_21 : decode cL_rests 21 = .ok (.iconst 0, 1) := by decide +kernel
theorem dL_rests_22 : decode cL_rests 22 = .ok (.ireturn, 1) := by decide +kernel
