theorem dX12_fact_0 : decode cX12_fact 0 = .ok (.aload_n 0, 1) := by decide +kernel
theorem dX12_fact_1 : decode cX12_fact 1 = .ok (.getfield 151, 3) := by decide +kernel
theorem dX12_fact_4 : decode cX12_fact 4 = .ok (.iconst 1, 1) := by decide +kernel
theorem dX12_fact_5 : decode cX12_fact 5 = .ok (.if_icmp .eq 5, 3) := by decide +kernel
theorem dX12_fact_8 : decode cX12_fact 8 = .ok (.iconst 0, 1) := by decide +kernel
theorem dX12_fact_9 : decode cX12_fact 9 = .ok (.ireturn, 1) := by decide +kernel
theorem dX12_fact_10 : decode cX12_fact 10 = .ok (.aload_n 0, 1) := by decide +kernel
theorem dX12_fact_11 : decode cX12_fact 11 = .ok (.getfield 144, 3) := by decide +kernel
theorem dX12_fact_14 : decode cX12_fact 14 = .ok (.ldc2_w 168, 3) := by decide +kernel
theorem dX12_fact_17 : decode cX12_fact 17 = .ok (.lcmp, 1) := by decide +kernel
theorem dX12_fact_18 : decode cX12_fact 18 = .ok (.ifCond .ne 5, 3) := by decide +kernel
theorem dX12_fact_21 : decode cX12_fact 21 = .ok (.iconst 1, 1) := by decide +kernel
theorem dX12_fact_22 : decode cX12_fact 22 = .ok (.ireturn, 1) := by decide +kernel
theorem dX12_fact_23 : decode cX12_fact 23 = .ok (.aload_n 0, 1) := by decide +kernel
theorem dX12_fact_24 : decode cX12_fact 24 = .ok (.getfield 144, 3) := by decide +kernel
theorem dX12_fact_27 : decode cX12_fact 27 = .ok (.ldc2_w 170, 3) := by decide +kernel
theorem dX12_fact_30 : decode cX12_fact 30 = .ok (.lcmp, 1) := by decide +kernel
theorem dX12_fact_31 : decode cX12_fact 31 = .ok (.ifCond .ne 5, 3) := by decide +kernel
theorem dX12_fact_34 : decode cX12_fact 34 = .ok (.iconst 2, 1) := by decide +kernel
theorem dX12_fact_35 : decode cX12_fact 35 = .ok (.ireturn, 1) := by decide +kernel
theorem dX12_fact_36 : decode cX12_fact 36 = .ok (.aload_n 0, 1) := by decide +kernel
theorem dX12_fact_37 : decode cX12_fact 37 = .ok (.getfield 144, 3) := by decide +kernel
theorem dX12_fact_40 : decode cX12_fact 40 = .ok (.ldc2_w 172, 3) := by decide +kernel
theorem dX12_fact_43 : decode cX12_fact 43 = .ok (.lcmp, 1) := by decide +kernel
theorem dX12_fact_44 : decode cX12_fact 44 = .ok (.ifCond .ne 7, 3) := by decide +kernel
theorem dX12_fact_47 : decode cX12_fact 47 = .ok (.iconst 3, 1) := by decide +kernel
theorem dX12_fact_48 : decode cX12_fact 48 = .ok (.goto 19, 3) := by decide +kernel
theorem dX12_fact_51 : decode cX12_fact 51 = .ok (.aload_n 0, 1) := by decide +kernel
theorem dX12_fact_52 : decode cX12_fact 52 = .ok (.getfield 144, 3) := by decide +kernel
theorem dX12_fact_55 : decode cX12_fact 55 = .ok (.ldc2_w 174, 3) := by decide +kernel
theorem dX12_fact_58 : decode cX12_fact 58 = .ok (.lcmp, 1) := by decide +kernel
theorem dX12_fact_59 : decode cX12_fact 59 = .ok (.ifCond .ne 7, 3) := by decide +kernel
theorem dX12_fact_62 : decode cX12_fact 62 = .ok (.iconst 4, 1) := by decide +kernel
theorem dX12_fact_63 : decode cX12_fact 63 = .ok (.goto 4, 3) := by decide +kernel
theorem dX12_fact_66 : decode cX12_fact 66 = .ok (.iconst 0, 1) := by decide +kernel
theorem dX12_fact_67 : decode cX12_fact 67 = .ok (.ireturn, 1) := by decide +kernel
def g_X12_fact (h : zH) (t0 : Nat) : Option Int32 := if (h.1 t0 6) = 1 then (if (lg_cmp (h.2 t0 7) 5878) = 0 then (some 1) else (if (lg_cmp (h.2 t0 7) 3946728583) = 0 then (some 2) else (if (lg_cmp (h.2 t0 7) 13385674) = 0 then (some 3) else (if (lg_cmp (h.2 t0 7) 6132983) = 0 then (some 4) else (some 0))))) else (some 0)
set_option maxRecDepth 100000 in
set_option maxHeartbeats 4000000 in
theorem b_X12_fact {K : zK} {G : zG} (hK : zC K G cX12_fact RX12 1 0 0 (some .int)) {h : zH} {t0 : Nat} (ht0 : zT t0 = (11, 0)) {r : Int32} (hE : zE K G (some (.int r)) h) (hg : g_X12_fact h t0 = some r) : zW K G 1 0 [(0, .ref (G.2.2.2 t0))] [] h := by
  rw [g_X12_fact] at hg
  refine z_aload_n (pc := 0) hK 0 dX12_fact_0 rfl (z_getI (pc := 1) hK f_X12_151_11 ht0 dX12_fact_1 (z_iconst (pc := 4) hK dX12_fact_4 zc_i1 (z_icmp_eq (pc := 5) hK 10 dX12_fact_5 (by decide) (fun c_1 => ?_) (fun c_1 => ?_))))
  · rw [if_pos c_1] at hg
    refine z_aload_n (pc := 10) hK 0 dX12_fact_10 rfl (z_getL (pc := 11) hK f_X12_144_11 ht0 dX12_fact_11 (z_ldc2 (pc := 14) hK q_1589 dX12_fact_14 (z_lcmp (pc := 17) hK dX12_fact_17 (z_if_ne (pc := 18) hK 23 dX12_fact_18 (by decide) (fun c_2 => ?_) (fun c_2 => ?_)))))
    · rw [if_neg c_2] at hg
      refine z_aload_n (pc := 23) hK 0 dX12_fact_23 rfl (z_getL (pc := 24) hK f_X12_144_11 ht0 dX12_fact_24 (z_ldc2 (pc := 27) hK q_1590 dX12_fact_27 (z_lcmp (pc := 30) hK dX12_fact_30 (z_if_ne (pc := 31) hK 36 dX12_fact_31 (by decide) (fun c_3 => ?_) (fun c_3 => ?_)))))
      · rw [if_neg c_3] at hg
        refine z_aload_n (pc := 36) hK 0 dX12_fact_36 rfl (z_getL (pc := 37) hK f_X12_144_11 ht0 dX12_fact_37 (z_ldc2 (pc := 40) hK q_1591 dX12_fact_40 (z_lcmp (pc := 43) hK dX12_fact_43 (z_if_ne (pc := 44) hK 51 dX12_fact_44 (by decide) (fun c_4 => ?_) (fun c_4 => ?_)))))
        · rw [if_neg c_4] at hg
          refine z_aload_n (pc := 51) hK 0 dX12_fact_51 rfl (z_getL (pc := 52) hK f_X12_144_11 ht0 dX12_fact_52 (z_ldc2 (pc := 55) hK q_1592 dX12_fact_55 (z_lcmp (pc := 58) hK dX12_fact_58 (z_if_ne (pc := 59) hK 66 dX12_fact_59 (by decide) (fun c_5 => ?_) (fun c_5 => ?_)))))
          · rw [if_neg c_5] at hg
            exact z_iconst (pc := 66) hK dX12_fact_66 zc_i0 (z_iretP (pc := 67) hK hE hg dX12_fact_67)
          · rw [if_pos c_5] at hg
            exact z_iconst (pc := 62) hK dX12_fact_62 zc_i4 (z_goto (pc := 63) hK 67 dX12_fact_63 (by decide) (z_iretP (pc := 67) hK hE hg dX12_fact_67))
        · rw [if_pos c_4] at hg
          exact z_iconst (pc := 47) hK dX12_fact_47 zc_i3 (z_goto (pc := 48) hK 67 dX12_fact_48 (by decide) (z_iretP (pc := 67) hK hE hg dX12_fact_67))
      · rw [if_pos c_3] at hg
        exact z_iconst (pc := 34) hK dX12_fact_34 zc_i2 (z_iretP (pc := 35) hK hE hg dX12_fact_35)
    · rw [if_pos c_2] at hg
      exact z_iconst (pc := 21) hK dX12_fact_21 zc_i1 (z_iretP (pc := 22) hK hE hg dX12_fact_22)
  · rw [if_neg c_1] at hg
    exact z_iconst (pc := 8) hK dX12_fact_8 zc_i0 (z_iretP (pc := 9) hK hE hg dX12_fact_9)
theorem m_X12_fact {l : Launch} {G : zG} (hG : zD G) {h : zH} {t0 : Nat} (ht0 : zT t0 = (11, 0)) {r : Int32} (hg : g_X12_fact h t0 = some r) : zM l G yX12_fact cX12_fact 1 (some .int) 0 0 [.ref (G.2.2.2 t0)] h (some (.int r)) h :=
  zM_of hG pn_X12 (Nat.le_of_ble_eq_true rfl) (fun K _ hK hE => b_X12_fact hK ht0 hE hg)
theorem dX12_reads_0 : decode cX12_reads 0 = .ok (.iconst 0, 1) := by decide +kernel
theorem dX12_reads_1 : decode cX12_reads 1 = .ok (.istore_n 1, 1) := by decide +kernel
theorem dX12_reads_2 : decode cX12_reads 2 = .ok (.iconst 1, 1) := by decide +kernel
theorem dX12_reads_3 : decode cX12_reads 3 = .ok (.istore_n 2, 1) := by decide +kernel
theorem dX12_reads_4 : decode cX12_reads 4 = .ok (.aload_n 0, 1) := by decide +kernel
theorem dX12_reads_5 : decode cX12_reads 5 = .ok (.getfield 51, 3) := by decide +kernel
theorem dX12_reads_8 : decode cX12_reads 8 = .ok (.iconst 0, 1) := by decide +kernel
theorem dX12_reads_9 : decode cX12_reads 9 = .ok (.iconst 0, 1) := by decide +kernel
theorem dX12_reads_10 : decode cX12_reads 10 = .ok (.bastore, 1) := by decide +kernel
theorem dX12_reads_11 : decode cX12_reads 11 = .ok (.iload_n 2, 1) := by decide +kernel
theorem dX12_reads_12 : decode cX12_reads 12 = .ok (.ifCond .eq 167, 3) := by decide +kernel
theorem dX12_reads_15 : decode cX12_reads 15 = .ok (.aload_n 0, 1) := by decide +kernel
theorem dX12_reads_16 : decode cX12_reads 16 = .ok (.invokevirtual 176, 3) := by decide +kernel
theorem dX12_reads_19 : decode cX12_reads 19 = .ok (.istore_n 3, 1) := by decide +kernel
theorem dX12_reads_20 : decode cX12_reads 20 = .ok (.aload_n 0, 1) := by decide +kernel
theorem dX12_reads_21 : decode cX12_reads 21 = .ok (.ldc2_w 180, 3) := by decide +kernel
theorem dX12_reads_24 : decode cX12_reads 24 = .ok (.invokevirtual 182, 3) := by decide +kernel
theorem dX12_reads_27 : decode cX12_reads 27 = .ok (.istore 4, 2) := by decide +kernel
theorem dX12_reads_29 : decode cX12_reads 29 = .ok (.aload_n 0, 1) := by decide +kernel
theorem dX12_reads_30 : decode cX12_reads 30 = .ok (.bipush 40, 2) := by decide +kernel
theorem dX12_reads_32 : decode cX12_reads 32 = .ok (.invokevirtual 186, 3) := by decide +kernel
theorem dX12_reads_35 : decode cX12_reads 35 = .ok (.istore 5, 2) := by decide +kernel
theorem dX12_reads_37 : decode cX12_reads 37 = .ok (.iload_n 3, 1) := by decide +kernel
theorem dX12_reads_38 : decode cX12_reads 38 = .ok (.ifCond .ne 27, 3) := by decide +kernel
theorem dX12_reads_41 : decode cX12_reads 41 = .ok (.iload 4, 2) := by decide +kernel
theorem dX12_reads_43 : decode cX12_reads 43 = .ok (.ifCond .ne 22, 3) := by decide +kernel
theorem dX12_reads_46 : decode cX12_reads 46 = .ok (.iload 5, 2) := by decide +kernel
theorem dX12_reads_48 : decode cX12_reads 48 = .ok (.ifCond .ne 17, 3) := by decide +kernel
theorem dX12_reads_51 : decode cX12_reads 51 = .ok (.aload_n 0, 1) := by decide +kernel
theorem dX12_reads_52 : decode cX12_reads 52 = .ok (.getfield 151, 3) := by decide +kernel
theorem dX12_reads_55 : decode cX12_reads 55 = .ok (.iconst 2, 1) := by decide +kernel
theorem dX12_reads_56 : decode cX12_reads 56 = .ok (.if_icmp .eq 9, 3) := by decide +kernel
theorem dX12_reads_59 : decode cX12_reads 59 = .ok (.aload_n 0, 1) := by decide +kernel
theorem dX12_reads_60 : decode cX12_reads 60 = .ok (.iconst 1, 1) := by decide +kernel
theorem dX12_reads_61 : decode cX12_reads 61 = .ok (.invokevirtual 190, 3) := by decide +kernel
theorem dX12_reads_64 : decode cX12_reads 64 = .ok (.ireturn, 1) := by decide +kernel
theorem dX12_reads_65 : decode cX12_reads 65 = .ok (.iload_n 1, 1) := by decide +kernel
theorem dX12_reads_66 : decode cX12_reads 66 = .ok (.iconst 5, 1) := by decide +kernel
theorem dX12_reads_67 : decode cX12_reads 67 = .ok (.if_icmp .ne 9, 3) := by decide +kernel
theorem dX12_reads_70 : decode cX12_reads 70 = .ok (.aload_n 0, 1) := by decide +kernel
theorem dX12_reads_71 : decode cX12_reads 71 = .ok (.iconst 5, 1) := by decide +kernel
theorem dX12_reads_72 : decode cX12_reads 72 = .ok (.invokevirtual 190, 3) := by decide +kernel
theorem dX12_reads_75 : decode cX12_reads 75 = .ok (.ireturn, 1) := by decide +kernel
theorem dX12_reads_76 : decode cX12_reads 76 = .ok (.iload 4, 2) := by decide +kernel
theorem dX12_reads_78 : decode cX12_reads 78 = .ok (.ifCond .ne 8, 3) := by decide +kernel
theorem dX12_reads_81 : decode cX12_reads 81 = .ok (.iload 5, 2) := by decide +kernel
theorem dX12_reads_83 : decode cX12_reads 83 = .ok (.ifCond .eq 48, 3) := by decide +kernel
theorem dX12_reads_86 : decode cX12_reads 86 = .ok (.aload_n 0, 1) := by decide +kernel
theorem dX12_reads_87 : decode cX12_reads 87 = .ok (.iload 4, 2) := by decide +kernel
theorem dX12_reads_89 : decode cX12_reads 89 = .ok (.ifCond .eq 8, 3) := by decide +kernel
theorem dX12_reads_92 : decode cX12_reads 92 = .ok (.bipush 30, 2) := by decide +kernel
theorem dX12_reads_94 : decode cX12_reads 94 = .ok (.goto 5, 3) := by decide +kernel
theorem dX12_reads_97 : decode cX12_reads 97 = .ok (.bipush 28, 2) := by decide +kernel
theorem dX12_reads_99 : decode cX12_reads 99 = .ok (.invokevirtual 193, 3) := by decide +kernel
theorem dX12_reads_102 : decode cX12_reads 102 = .ok (.iinc 1 1, 3) := by decide +kernel
theorem dX12_reads_105 : decode cX12_reads 105 = .ok (.aload_n 0, 1) := by decide +kernel
theorem dX12_reads_106 : decode cX12_reads 106 = .ok (.getfield 48, 3) := by decide +kernel
theorem dX12_reads_109 : decode cX12_reads 109 = .ok (.iload_n 1, 1) := by decide +kernel
theorem dX12_reads_110 : decode cX12_reads 110 = .ok (.iload 4, 2) := by decide +kernel
theorem dX12_reads_112 : decode cX12_reads 112 = .ok (.ifCond .eq 7, 3) := by decide +kernel
theorem dX12_reads_115 : decode cX12_reads 115 = .ok (.iconst 1, 1) := by decide +kernel
theorem dX12_reads_116 : decode cX12_reads 116 = .ok (.goto 4, 3) := by decide +kernel
theorem dX12_reads_119 : decode cX12_reads 119 = .ok (.iconst 2, 1) := by decide +kernel
theorem dX12_reads_120 : decode cX12_reads 120 = .ok (.iastore, 1) := by decide +kernel
theorem dX12_reads_121 : decode cX12_reads 121 = .ok (.aload_n 0, 1) := by decide +kernel
theorem dX12_reads_122 : decode cX12_reads 122 = .ok (.getfield 51, 3) := by decide +kernel
theorem dX12_reads_125 : decode cX12_reads 125 = .ok (.iload_n 1, 1) := by decide +kernel
theorem dX12_reads_126 : decode cX12_reads 126 = .ok (.iconst 0, 1) := by decide +kernel
theorem dX12_reads_127 : decode cX12_reads 127 = .ok (.bastore, 1) := by decide +kernel
theorem dX12_reads_128 : decode cX12_reads 128 = .ok (.goto 44, 3) := by decide +kernel
theorem dX12_reads_131 : decode cX12_reads 131 = .ok (.aload_n 0, 1) := by decide +kernel
theorem dX12_reads_132 : decode cX12_reads 132 = .ok (.iload_n 3, 1) := by decide +kernel
theorem dX12_reads_133 : decode cX12_reads 133 = .ok (.ifCond .le 7, 3) := by decide +kernel
theorem dX12_reads_136 : decode cX12_reads 136 = .ok (.iload_n 3, 1) := by decide +kernel
theorem dX12_reads_137 : decode cX12_reads 137 = .ok (.goto 10, 3) := by decide +kernel
theorem dX12_reads_140 : decode cX12_reads 140 = .ok (.bipush 100, 2) := by decide +kernel
theorem dX12_reads_142 : decode cX12_reads 142 = .ok (.aload_n 0, 1) := by decide +kernel
theorem dX12_reads_143 : decode cX12_reads 143 = .ok (.getfield 148, 3) := by decide +kernel
theorem dX12_reads_146 : decode cX12_reads 146 = .ok (.iadd, 1) := by decide +kernel
theorem dX12_reads_147 : decode cX12_reads 147 = .ok (.invokevirtual 193, 3) := by decide +kernel
theorem dX12_reads_150 : decode cX12_reads 150 = .ok (.iconst 0, 1) := by decide +kernel
theorem dX12_reads_151 : decode cX12_reads 151 = .ok (.istore_n 2, 1) := by decide +kernel
theorem dX12_reads_152 : decode cX12_reads 152 = .ok (.iload_n 1, 1) := by decide +kernel
theorem dX12_reads_153 : decode cX12_reads 153 = .ok (.ifCond .le 19, 3) := by decide +kernel
theorem dX12_reads_156 : decode cX12_reads 156 = .ok (.aload_n 0, 1) := by decide +kernel
theorem dX12_reads_157 : decode cX12_reads 157 = .ok (.getfield 48, 3) := by decide +kernel
theorem dX12_reads_160 : decode cX12_reads 160 = .ok (.iload_n 1, 1) := by decide +kernel
theorem dX12_reads_161 : decode cX12_reads 161 = .ok (.iaload, 1) := by decide +kernel
theorem dX12_reads_162 : decode cX12_reads 162 = .ok (.iconst 1, 1) := by decide +kernel
theorem dX12_reads_163 : decode cX12_reads 163 = .ok (.if_icmp .ne 9, 3) := by decide +kernel
theorem dX12_reads_166 : decode cX12_reads 166 = .ok (.iinc 1 (-1), 3) := by decide +kernel
theorem dX12_reads_169 : decode cX12_reads 169 = .ok (.goto (-17), 3) := by decide +kernel
theorem dX12_reads_172 : decode cX12_reads 172 = .ok (.aload_n 0, 1) := by decide +kernel
theorem dX12_reads_173 : decode cX12_reads 173 = .ok (.invokevirtual 197, 3) := by decide +kernel
theorem dX12_reads_176 : decode cX12_reads 176 = .ok (.goto (-165), 3) := by decide +kernel
theorem dX12_reads_179 : decode cX12_reads 179 = .ok (.aload_n 0, 1) := by decide +kernel
theorem dX12_reads_180 : decode cX12_reads 180 = .ok (.bipush 43, 2) := by decide +kernel
theorem dX12_reads_182 : decode cX12_reads 182 = .ok (.invokevirtual 186, 3) := by decide +kernel
theorem dX12_reads_185 : decode cX12_reads 185 = .ok (.ifCond .ne 21, 3) := by decide +kernel
theorem dX12_reads_188 : decode cX12_reads 188 = .ok (.aload_n 0, 1) := by decide +kernel
theorem dX12_reads_189 : decode cX12_reads 189 = .ok (.bipush 45, 2) := by decide +kernel
theorem dX12_reads_191 : decode cX12_reads 191 = .ok (.invokevirtual 186, 3) := by decide +kernel
theorem dX12_reads_194 : decode cX12_reads 194 = .ok (.ifCond .ne 12, 3) := by decide +kernel
theorem dX12_reads_197 : decode cX12_reads 197 = .ok (.aload_n 0, 1) := by decide +kernel
theorem dX12_reads_198 : decode cX12_reads 198 = .ok (.bipush 42, 2) := by decide +kernel
theorem dX12_reads_200 : decode cX12_reads 200 = .ok (.invokevirtual 186, 3) := by decide +kernel
theorem dX12_reads_203 : decode cX12_reads 203 = .ok (.ifCond .eq 42, 3) := by decide +kernel
theorem dX12_reads_206 : decode cX12_reads 206 = .ok (.aload_n 0, 1) := by decide +kernel
theorem dX12_reads_207 : decode cX12_reads 207 = .ok (.aload_n 0, 1) := by decide +kernel
theorem dX12_reads_208 : decode cX12_reads 208 = .ok (.bipush 43, 2) := by decide +kernel
theorem dX12_reads_210 : decode cX12_reads 210 = .ok (.invokevirtual 186, 3) := by decide +kernel
theorem dX12_reads_213 : decode cX12_reads 213 = .ok (.ifCond .eq 8, 3) := by decide +kernel
theorem dX12_reads_216 : decode cX12_reads 216 = .ok (.bipush 20, 2) := by decide +kernel
theorem dX12_reads_218 : decode cX12_reads 218 = .ok (.goto 19, 3) := by decide +kernel
theorem dX12_reads_221 : decode cX12_reads 221 = .ok (.aload_n 0, 1) := by decide +kernel
theorem dX12_reads_222 : decode cX12_reads 222 = .ok (.bipush 45, 2) := by decide +kernel
theorem dX12_reads_224 : decode cX12_reads 224 = .ok (.invokevirtual 186, 3) := by decide +kernel
theorem dX12_reads_227 : decode cX12_reads 227 = .ok (.ifCond .eq 8, 3) := by decide +kernel
theorem dX12_reads_230 : decode cX12_reads 230 = .ok (.bipush 21, 2) := by decide +kernel
theorem dX12_reads_232 : decode cX12_reads 232 = .ok (.goto 5, 3) := by decide +kernel
theorem dX12_reads_235 : decode cX12_reads 235 = .ok (.bipush 22, 2) := by decide +kernel
theorem dX12_reads_237 : decode cX12_reads 237 = .ok (.invokevirtual 193, 3) := by decide +kernel
theorem dX12_reads_240 : decode cX12_reads 240 = .ok (.iconst 1, 1) := by decide +kernel
theorem dX12_reads_241 : decode cX12_reads 241 = .ok (.istore_n 2, 1) := by decide +kernel
theorem dX12_reads_242 : decode cX12_reads 242 = .ok (.goto 182, 3) := by decide +kernel
theorem dX12_reads_245 : decode cX12_reads 245 = .ok (.aload_n 0, 1) := by decide +kernel
theorem dX12_reads_246 : decode cX12_reads 246 = .ok (.bipush 60, 2) := by decide +kernel
theorem dX12_reads_248 : decode cX12_reads 248 = .ok (.invokevirtual 186, 3) := by decide +kernel
theorem dX12_reads_251 : decode cX12_reads 251 = .ok (.ifCond .ne 12, 3) := by decide +kernel
theorem dX12_reads_254 : decode cX12_reads 254 = .ok (.aload_n 0, 1) := by decide +kernel
theorem dX12_reads_255 : decode cX12_reads 255 = .ok (.bipush 61, 2) := by decide +kernel
theorem dX12_reads_257 : decode cX12_reads 257 = .ok (.invokevirtual 186, 3) := by decide +kernel
theorem dX12_reads_260 : decode cX12_reads 260 = .ok (.ifCond .eq 44, 3) := by decide +kernel
theorem dX12_reads_263 : decode cX12_reads 263 = .ok (.aload_n 0, 1) := by decide +kernel
theorem dX12_reads_264 : decode cX12_reads 264 = .ok (.getfield 51, 3) := by decide +kernel
theorem dX12_reads_267 : decode cX12_reads 267 = .ok (.iload_n 1, 1) := by decide +kernel
theorem dX12_reads_268 : decode cX12_reads 268 = .ok (.baload, 1) := by decide +kernel
theorem dX12_reads_269 : decode cX12_reads 269 = .ok (.ifCond .ne 35, 3) := by decide +kernel
theorem dX12_reads_272 : decode cX12_reads 272 = .ok (.aload_n 0, 1) := by decide +kernel
theorem dX12_reads_273 : decode cX12_reads 273 = .ok (.aload_n 0, 1) := by decide +kernel
theorem dX12_reads_274 : decode cX12_reads 274 = .ok (.bipush 60, 2) := by decide +kernel
theorem dX12_reads_276 : decode cX12_reads 276 = .ok (.invokevirtual 186, 3) := by decide +kernel
theorem dX12_reads_279 : decode cX12_reads 279 = .ok (.ifCond .eq 8, 3) := by decide +kernel
theorem dX12_reads_282 : decode cX12_reads 282 = .ok (.bipush 24, 2) := by decide +kernel
theorem dX12_reads_284 : decode cX12_reads 284 = .ok (.goto 5, 3) := by decide +kernel
theorem dX12_reads_287 : decode cX12_reads 287 = .ok (.bipush 25, 2) := by decide +kernel
theorem dX12_reads_289 : decode cX12_reads 289 = .ok (.invokevirtual 193, 3) := by decide +kernel
theorem dX12_reads_292 : decode cX12_reads 292 = .ok (.aload_n 0, 1) := by decide +kernel
theorem dX12_reads_293 : decode cX12_reads 293 = .ok (.getfield 51, 3) := by decide +kernel
theorem dX12_reads_296 : decode cX12_reads 296 = .ok (.iload_n 1, 1) := by decide +kernel
theorem dX12_reads_297 : decode cX12_reads 297 = .ok (.iconst 1, 1) := by decide +kernel
theorem dX12_reads_298 : decode cX12_reads 298 = .ok (.bastore, 1) := by decide +kernel
theorem dX12_reads_299 : decode cX12_reads 299 = .ok (.iconst 1, 1) := by decide +kernel
theorem dX12_reads_300 : decode cX12_reads 300 = .ok (.istore_n 2, 1) := by decide +kernel
theorem dX12_reads_301 : decode cX12_reads 301 = .ok (.goto 123, 3) := by decide +kernel
theorem dX12_reads_304 : decode cX12_reads 304 = .ok (.aload_n 0, 1) := by decide +kernel
theorem dX12_reads_305 : decode cX12_reads 305 = .ok (.ldc2_w 200, 3) := by decide +kernel
theorem dX12_reads_308 : decode cX12_reads 308 = .ok (.invokevirtual 182, 3) := by decide +kernel
theorem dX12_reads_311 : decode cX12_reads 311 = .ok (.ifCond .ne 13, 3) := by decide +kernel
theorem dX12_reads_314 : decode cX12_reads 314 = .ok (.aload_n 0, 1) := by decide +kernel
theorem dX12_reads_315 : decode cX12_reads 315 = .ok (.ldc2_w 202, 3) := by decide +kernel
theorem dX12_reads_318 : decode cX12_reads 318 = .ok (.invokevirtual 182, 3) := by decide +kernel
theorem dX12_reads_321 : decode cX12_reads 321 = .ok (.ifCond .eq 36, 3) := by decide +kernel
theorem dX12_reads_324 : decode cX12_reads 324 = .ok (.aload_n 0, 1) := by decide +kernel
theorem dX12_reads_325 : decode cX12_reads 325 = .ok (.aload_n 0, 1) := by decide +kernel
theorem dX12_reads_326 : decode cX12_reads 326 = .ok (.ldc2_w 200, 3) := by decide +kernel
theorem dX12_reads_329 : decode cX12_reads 329 = .ok (.invokevirtual 182, 3) := by decide +kernel
theorem dX12_reads_332 : decode cX12_reads 332 = .ok (.ifCond .eq 8, 3) := by decide +kernel
theorem dX12_reads_335 : decode cX12_reads 335 = .ok (.bipush 26, 2) := by decide +kernel
theorem dX12_reads_337 : decode cX12_reads 337 = .ok (.goto 5, 3) := by decide +kernel
theorem dX12_reads_340 : decode cX12_reads 340 = .ok (.bipush 27, 2) := by decide +kernel
theorem dX12_reads_342 : decode cX12_reads 342 = .ok (.invokevirtual 193, 3) := by decide +kernel
theorem dX12_reads_345 : decode cX12_reads 345 = .ok (.aload_n 0, 1) := by decide +kernel
theorem dX12_reads_346 : decode cX12_reads 346 = .ok (.getfield 51, 3) := by decide +kernel
theorem dX12_reads_349 : decode cX12_reads 349 = .ok (.iload_n 1, 1) := by decide +kernel
theorem dX12_reads_350 : decode cX12_reads 350 = .ok (.iconst 0, 1) := by decide +kernel
theorem dX12_reads_351 : decode cX12_reads 351 = .ok (.bastore, 1) := by decide +kernel
theorem dX12_reads_352 : decode cX12_reads 352 = .ok (.iconst 1, 1) := by decide +kernel
theorem dX12_reads_353 : decode cX12_reads 353 = .ok (.istore_n 2, 1) := by decide +kernel
theorem dX12_reads_354 : decode cX12_reads 354 = .ok (.goto 70, 3) := by decide +kernel
theorem dX12_reads_357 : decode cX12_reads 357 = .ok (.aload_n 0, 1) := by decide +kernel
theorem dX12_reads_358 : decode cX12_reads 358 = .ok (.bipush 41, 2) := by decide +kernel
theorem dX12_reads_360 : decode cX12_reads 360 = .ok (.invokevirtual 186, 3) := by decide +kernel
theorem dX12_reads_363 : decode cX12_reads 363 = .ok (.ifCond .eq 36, 3) := by decide +kernel
theorem dX12_reads_366 : decode cX12_reads 366 = .ok (.iload_n 1, 1) := by decide +kernel
theorem dX12_reads_367 : decode cX12_reads 367 = .ok (.ifCond .le 32, 3) := by decide +kernel
theorem dX12_reads_370 : decode cX12_reads 370 = .ok (.aload_n 0, 1) := by decide +kernel
theorem dX12_reads_371 : decode cX12_reads 371 = .ok (.bipush 29, 2) := by decide +kernel
theorem dX12_reads_373 : decode cX12_reads 373 = .ok (.invokevirtual 193, 3) := by decide +kernel
theorem dX12_reads_376 : decode cX12_reads 376 = .ok (.iinc 1 (-1), 3) := by decide +kernel
theorem dX12_reads_379 : decode cX12_reads 379 = .ok (.iload_n 1, 1) := by decide +kernel
theorem dX12_reads_380 : decode cX12_reads 380 = .ok (.ifCond .le 44, 3) := by decide +kernel
theorem dX12_reads_383 : decode cX12_reads 383 = .ok (.aload_n 0, 1) := by decide +kernel
theorem dX12_reads_384 : decode cX12_reads 384 = .ok (.getfield 48, 3) := by decide +kernel
theorem dX12_reads_387 : decode cX12_reads 387 = .ok (.iload_n 1, 1) := by decide +kernel
theorem dX12_reads_388 : decode cX12_reads 388 = .ok (.iaload, 1) := by decide +kernel
theorem dX12_reads_389 : decode cX12_reads 389 = .ok (.iconst 1, 1) := by decide +kernel
theorem dX12_reads_390 : decode cX12_reads 390 = .ok (.if_icmp .ne 34, 3) := by decide +kernel
theorem dX12_reads_393 : decode cX12_reads 393 = .ok (.iinc 1 (-1), 3) := by decide +kernel
theorem dX12_reads_396 : decode cX12_reads 396 = .ok (.goto (-17), 3) := by decide +kernel
theorem dX12_reads_399 : decode cX12_reads 399 = .ok (.iload_n 1, 1) := by decide +kernel
theorem dX12_reads_400 : decode cX12_reads 400 = .ok (.ifCond .ne 18, 3) := by decide +kernel
theorem dX12_reads_403 : decode cX12_reads 403 = .ok (.aload_n 0, 1) := by decide +kernel
theorem dX12_reads_404 : decode cX12_reads 404 = .ok (.bipush 59, 2) := by decide +kernel
theorem dX12_reads_406 : decode cX12_reads 406 = .ok (.invokevirtual 186, 3) := by decide +kernel
theorem dX12_reads_409 : decode cX12_reads 409 = .ok (.ifCond .eq 9, 3) := by decide +kernel
theorem dX12_reads_412 : decode cX12_reads 412 = .ok (.aload_n 0, 1) := by decide +kernel
theorem dX12_reads_413 : decode cX12_reads 413 = .ok (.invokevirtual 197, 3) := by decide +kernel
theorem dX12_reads_416 : decode cX12_reads 416 = .ok (.iconst 1, 1) := by decide +kernel
theorem dX12_reads_417 : decode cX12_reads 417 = .ok (.ireturn, 1) := by decide +kernel
theorem dX12_reads_418 : decode cX12_reads 418 = .ok (.aload_n 0, 1) := by decide +kernel
theorem dX12_reads_419 : decode cX12_reads 419 = .ok (.iconst 1, 1) := by decide +kernel
theorem dX12_reads_420 : decode cX12_reads 420 = .ok (.invokevirtual 190, 3) := by decide +kernel
theorem dX12_reads_423 : decode cX12_reads 423 = .ok (.ireturn, 1) := by decide +kernel
theorem dX12_reads_424 : decode cX12_reads 424 = .ok (.aload_n 0, 1) := by decide +kernel
theorem dX12_reads_425 : decode cX12_reads 425 = .ok (.invokevirtual 197, 3) := by decide +kernel
theorem dX12_reads_428 : decode cX12_reads 428 = .ok (.goto (-417), 3) := by decide +kernel
def g_X12_reads_424 (t0 : Nat) (k11 : Int32 → Int32 → zH → Option (Bool × zH)) (x1 : Int32) (x2 : Int32) (h : zH) : Option (Bool × zH) := (g_X12_nextToken h t0).bind fun v_58 => k11 x1 x2 v_58
def g_X12_reads_379 (t0 : Nat) (k11 : Int32 → Int32 → zH → Option (Bool × zH)) : Nat → Int32 → Int32 → zH → Option (Bool × zH)
  | 0, _, _, _ => none
  | n + 1, x1, x2, h => if x1 ≤ 0 then (g_X12_reads_424 t0 k11 x1 x2 h) else (zgu (zin x1 7) <| if (h.1 (zR t0 23) (zx x1)) = 1 then (g_X12_reads_379 t0 k11 n (x1 + (-1)) x2 h) else (g_X12_reads_424 t0 k11 x1 x2 h))
def g_X12_reads_342 (t0 : Nat) (k11 : Int32 → Int32 → zH → Option (Bool × zH)) (x1 : Int32) (s0 : Int32) (h : zH) : Option (Bool × zH) := (g_X12_puts h t0 s0).bind fun v_59 => zgu (zin x1 7) <| zlet (zpi v_59 (zR t0 24) (zx x1) (vp_nar .boolean 0)) fun h_61 => g_X12_reads_424 t0 k11 x1 1 h_61
def g_X12_reads_324 (t0 : Nat) (k11 : Int32 → Int32 → zH → Option (Bool × zH)) (x1 : Int32) (h : zH) : Option (Bool × zH) := (g_X12_isWord h t0 1111).bind fun v_47 => if (zb v_47) = 0 then (g_X12_reads_342 t0 k11 x1 27 h) else (g_X12_reads_342 t0 k11 x1 26 h)
def g_X12_reads_418 (t0 : Nat)  (h : zH) : Option (Bool × zH) := (g_X12_fails h t0 1).bind fun v_62 => some (v_62.1, v_62.2)
def g_X12_reads_399 (t0 : Nat)  (x1 : Int32) (h : zH) : Option (Bool × zH) := if x1 = 0 then ((g_X12_isSign h t0 59).bind fun v_50 => if (zb v_50) = 0 then (g_X12_reads_418 t0 h) else ((g_X12_nextToken h t0).bind fun v_52 => some (true, v_52))) else (g_X12_reads_418 t0 h)
def g_X12_reads_304 (t0 : Nat) (k11 : Int32 → Int32 → zH → Option (Bool × zH)) (x1 : Int32) (x2 : Int32) (h : zH) : Option (Bool × zH) := (g_X12_isWord h t0 1111).bind fun v_30 => if (zb v_30) = 0 then ((g_X12_isWord h t0 423).bind fun v_32 => if (zb v_32) = 0 then ((g_X12_isSign h t0 41).bind fun v_34 => if (zb v_34) = 0 then (g_X12_reads_399 t0 x1 h) else (if x1 ≤ 0 then (g_X12_reads_399 t0 x1 h) else ((g_X12_puts h t0 29).bind fun v_37 => g_X12_reads_379 t0 k11 zfu (x1 + (-1)) x2 v_37))) else (g_X12_reads_324 t0 k11 x1 h)) else (g_X12_reads_324 t0 k11 x1 h)
def g_X12_reads_172 (t0 : Nat) (k11 : Int32 → Int32 → zH → Option (Bool × zH)) (x1 : Int32) (x2 : Int32) (h : zH) : Option (Bool × zH) := (g_X12_nextToken h t0).bind fun v_72 => k11 x1 x2 v_72
def g_X12_reads_152 (t0 : Nat) (k11 : Int32 → Int32 → zH → Option (Bool × zH)) : Nat → Int32 → Int32 → zH → Option (Bool × zH)
  | 0, _, _, _ => none
  | n + 1, x1, x2, h => if x1 ≤ 0 then (g_X12_reads_172 t0 k11 x1 x2 h) else (zgu (zin x1 7) <| if (h.1 (zR t0 23) (zx x1)) = 1 then (g_X12_reads_152 t0 k11 n (x1 + (-1)) x2 h) else (g_X12_reads_172 t0 k11 x1 x2 h))
def g_X12_reads_147 (t0 : Nat) (k11 : Int32 → Int32 → zH → Option (Bool × zH)) (x1 : Int32) (s0 : Int32) (h : zH) : Option (Bool × zH) := (g_X12_puts h t0 s0).bind fun v_57 => g_X12_reads_152 t0 k11 zfu x1 0 v_57
def g_X12_reads_120 (t0 : Nat) (k11 : Int32 → Int32 → zH → Option (Bool × zH)) (x1 : Int32) (x2 : Int32) (s0 : Int32) (s1 : Int32) (h : zH) : Option (Bool × zH) := zgu (zin s1 7) <| zlet (zpi h (zR t0 23) (zx s1) s0) fun h_69 => zgu (zin x1 7) <| zlet (zpi h_69 (zR t0 24) (zx x1) (vp_nar .boolean 0)) fun h_71 => g_X12_reads_172 t0 k11 x1 x2 h_71
def g_X12_reads_99 (t0 : Nat) (k11 : Int32 → Int32 → zH → Option (Bool × zH)) (x1 : Int32) (x2 : Int32) (x4 : Int32) (s0 : Int32) (h : zH) : Option (Bool × zH) := (g_X12_puts h t0 s0).bind fun v_63 => if x4 = 0 then (g_X12_reads_120 t0 k11 (x1 + 1) x2 2 (x1 + 1) v_63) else (g_X12_reads_120 t0 k11 (x1 + 1) x2 1 (x1 + 1) v_63)
def g_X12_reads_86 (t0 : Nat) (k11 : Int32 → Int32 → zH → Option (Bool × zH)) (x1 : Int32) (x2 : Int32) (x4 : Int32) (h : zH) : Option (Bool × zH) := if x4 = 0 then (g_X12_reads_99 t0 k11 x1 x2 x4 28 h) else (g_X12_reads_99 t0 k11 x1 x2 x4 30 h)
def g_X12_reads_65 (t0 : Nat) (k11 : Int32 → Int32 → zH → Option (Bool × zH)) (x1 : Int32) (x2 : Int32) (x3 : Int32) (x4 : Int32) (x5 : Int32) (h : zH) : Option (Bool × zH) := if x1 = 5 then ((g_X12_fails h t0 5).bind fun v_42 => some (v_42.1, v_42.2)) else (if x4 = 0 then (if x5 = 0 then (if x3 ≤ 0 then (g_X12_reads_147 t0 k11 x1 (100 + (h.1 t0 8)) h) else (g_X12_reads_147 t0 k11 x1 x3 h)) else (g_X12_reads_86 t0 k11 x1 x2 x4 h)) else (g_X12_reads_86 t0 k11 x1 x2 x4 h))
def g_X12_reads_237 (t0 : Nat) (k11 : Int32 → Int32 → zH → Option (Bool × zH)) (x1 : Int32) (s0 : Int32) (h : zH) : Option (Bool × zH) := (g_X12_puts h t0 s0).bind fun v_43 => g_X12_reads_424 t0 k11 x1 1 v_43
def g_X12_reads_206 (t0 : Nat) (k11 : Int32 → Int32 → zH → Option (Bool × zH)) (x1 : Int32) (h : zH) : Option (Bool × zH) := (g_X12_isSign h t0 43).bind fun v_22 => if (zb v_22) = 0 then ((g_X12_isSign h t0 45).bind fun v_24 => if (zb v_24) = 0 then (g_X12_reads_237 t0 k11 x1 22 h) else (g_X12_reads_237 t0 k11 x1 21 h)) else (g_X12_reads_237 t0 k11 x1 20 h)
def g_X12_reads_289 (t0 : Nat) (k11 : Int32 → Int32 → zH → Option (Bool × zH)) (x1 : Int32) (s0 : Int32) (h : zH) : Option (Bool × zH) := (g_X12_puts h t0 s0).bind fun v_44 => zgu (zin x1 7) <| zlet (zpi v_44 (zR t0 24) (zx x1) (vp_nar .boolean 1)) fun h_46 => g_X12_reads_424 t0 k11 x1 1 h_46
def g_X12_reads_263 (t0 : Nat) (k11 : Int32 → Int32 → zH → Option (Bool × zH)) (x1 : Int32) (x2 : Int32) (h : zH) : Option (Bool × zH) := zgu (zin x1 7) <| if (h.1 (zR t0 24) (zx x1)) = 0 then ((g_X12_isSign h t0 60).bind fun v_28 => if (zb v_28) = 0 then (g_X12_reads_289 t0 k11 x1 25 h) else (g_X12_reads_289 t0 k11 x1 24 h)) else (g_X12_reads_304 t0 k11 x1 x2 h)
def g_X12_reads_11 (t0 : Nat)  : Nat → Int32 → Int32 → zH → Option (Bool × zH)
  | 0, _, _, _ => none
  | n + 1, x1, x2, h => if x2 = 0 then ((g_X12_isSign h t0 43).bind fun v_4 => if (zb v_4) = 0 then ((g_X12_isSign h t0 45).bind fun v_6 => if (zb v_6) = 0 then ((g_X12_isSign h t0 42).bind fun v_8 => if (zb v_8) = 0 then ((g_X12_isSign h t0 60).bind fun v_10 => if (zb v_10) = 0 then ((g_X12_isSign h t0 61).bind fun v_12 => if (zb v_12) = 0 then (g_X12_reads_304 t0 (g_X12_reads_11 t0 n) x1 x2 h) else (g_X12_reads_263 t0 (g_X12_reads_11 t0 n) x1 x2 h)) else (g_X12_reads_263 t0 (g_X12_reads_11 t0 n) x1 x2 h)) else (g_X12_reads_206 t0 (g_X12_reads_11 t0 n) x1 h)) else (g_X12_reads_206 t0 (g_X12_reads_11 t0 n) x1 h)) else (g_X12_reads_206 t0 (g_X12_reads_11 t0 n) x1 h)) else ((g_X12_fact h t0).bind fun v_14 => (g_X12_isWord h t0 10631).bind fun v_15 => (g_X12_isSign h t0 40).bind fun v_16 => if v_14 = 0 then (if (zb v_15) = 0 then (if (zb v_16) = 0 then (if (h.1 t0 6) = 2 then (g_X12_reads_65 t0 (g_X12_reads_11 t0 n) x1 x2 v_14 (zb v_15) (zb v_16) h) else ((g_X12_fails h t0 1).bind fun v_21 => some (v_21.1, v_21.2))) else (g_X12_reads_65 t0 (g_X12_reads_11 t0 n) x1 x2 v_14 (zb v_15) (zb v_16) h)) else (g_X12_reads_65 t0 (g_X12_reads_11 t0 n) x1 x2 v_14 (zb v_15) (zb v_16) h)) else (g_X12_reads_65 t0 (g_X12_reads_11 t0 n) x1 x2 v_14 (zb v_15) (zb v_16) h))
def g_X12_reads (h : zH) (t0 : Nat) : Option (Bool × zH) := zgu (zin 0 7) <| zlet (zpi h (zR t0 24) (zx 0) (vp_nar .boolean 0)) fun h_2 => g_X12_reads_11 t0 zfu 0 1 h_2
set_option maxRecDepth 100000 in
set_option maxHeartbeats 4000000 in
theorem b_X12_reads_424 {K : zK} {G : zG} (hK : zC K G cX12_reads RX12 6 2 42 (some .boolean)) {t0 : Nat} (ht0 : zT t0 = (11, 0)) {r : Bool × zH} (hE : zE K G (some (.int (zb r.1))) r.2) {k11 : Int32 → Int32 → zH → Option (Bool × zH)} (hk11 : ∀ (x1 : Int32) (x2 : Int32) (h : zH), k11 x1 x2 h = some r → zW K G 6 11 [(0, .ref (G.2.2.2 t0)), (1, .int x1), (2, .int x2)] [] h) (x1 : Int32) (x2 : Int32) (h : zH) (hg : g_X12_reads_424 t0 k11 x1 x2 h = some r) : zW K G 6 424 [(0, .ref (G.2.2.2 t0)), (1, .int x1), (2, .int x2)] [] h := by
  rw [g_X12_reads_424] at hg
  obtain ⟨v_58, qv_58, hg⟩ := zbind_some hg
  exact z_aload_n (pc := 424) hK 0 dX12_reads_424 rfl (z_callVv (pc := 425) hK [] (m_X12_nextToken (zC_D hK) ht0 qv_58) sv_X12_nextToken q_1474 ht0 rfl [] rfl (Nat.le_of_ble_eq_true rfl) ⟨by decide, by decide⟩ dX12_reads_425 (z_goto (pc := 428) hK 11 dX12_reads_428 (by decide) (zsub (lv' := [(0, .ref (G.2.2.2 t0)), (1, .int x1), (2, .int x2)]) [0, 1, 2] rfl (hk11 x1 x2 v_58 hg))))
set_option maxRecDepth 100000 in
set_option maxHeartbeats 4000000 in
theorem b_X12_reads_379 {K : zK} {G : zG} (hK : zC K G cX12_reads RX12 6 2 42 (some .boolean)) {t0 : Nat} (ht0 : zT t0 = (11, 0)) {r : Bool × zH} (hE : zE K G (some (.int (zb r.1))) r.2) {k11 : Int32 → Int32 → zH → Option (Bool × zH)} (hk11 : ∀ (x1 : Int32) (x2 : Int32) (h : zH), k11 x1 x2 h = some r → zW K G 6 11 [(0, .ref (G.2.2.2 t0)), (1, .int x1), (2, .int x2)] [] h) : ∀ (n : Nat) (x1 : Int32) (x2 : Int32) (h : zH), g_X12_reads_379 t0 k11 n x1 x2 h = some r → zW K G 6 379 [(0, .ref (G.2.2.2 t0)), (1, .int x1), (2, .int x2)] [] h := by
  intro n
  induction n with
  | zero => intro x1 x2 h hg; exact nomatch (show none = some r from hg)
  | succ n ih =>
    intro x1 x2 h hg
    rw [g_X12_reads_379] at hg
    refine z_iload_n (pc := 379) hK 1 dX12_reads_379 rfl (z_if_le (pc := 380) hK 424 dX12_reads_380 (by decide) (fun c_53 => ?_) (fun c_53 => ?_))
    · rw [if_pos c_53] at hg
      exact zsub (lv' := [(0, .ref (G.2.2.2 t0)), (1, .int x1), (2, .int x2)]) [0, 1, 2] rfl (b_X12_reads_424 hK ht0 hE hk11 x1 x2 h hg)
    · rw [if_neg c_53] at hg
      obtain ⟨c_54, hg⟩ := zgu_some hg
      refine z_aload_n (pc := 383) hK 0 dX12_reads_383 rfl (z_getR (pc := 384) hK f_X12_48_11 ht0 dX12_reads_384 (z_iload_n (pc := 387) hK 1 dX12_reads_387 rfl (z_iald (pc := 388) hK (zt_11_23 ht0) c_54 dX12_reads_388 (z_iconst (pc := 389) hK dX12_reads_389 zc_i1 (z_icmp_ne (pc := 390) hK 424 dX12_reads_390 (by decide) (fun c_55 => ?_) (fun c_55 => ?_))))))
      · rw [if_neg c_55] at hg
        exact zsub (lv' := [(0, .ref (G.2.2.2 t0)), (1, .int x1), (2, .int x2)]) [0, 1, 2] rfl (b_X12_reads_424 hK ht0 hE hk11 x1 x2 h hg)
      · rw [if_pos c_55] at hg
        exact z_iinc (pc := 393) hK 1 (lv' := [(1, .int (x1 + (-1))), (0, .ref (G.2.2.2 t0)), (2, .int x2)]) dX12_reads_393 rfl (zc_nm1 _) (by decide) rfl (z_goto (pc := 396) hK 379 dX12_reads_396 (by decide) (zsub (lv' := [(0, .ref (G.2.2.2 t0)), (1, .int (x1 + (-1))), (2, .int x2)]) [1, 0, 2] rfl (ih (x1 + (-1)) x2 h hg)))
set_option maxRecDepth 100000 in
set_option maxHeartbeats 4000000 in
theorem b_X12_reads_342 {K : zK} {G : zG} (hK : zC K G cX12_reads RX12 6 2 42 (some .boolean)) {t0 : Nat} (ht0 : zT t0 = (11, 0)) {r : Bool × zH} (hE : zE K G (some (.int (zb r.1))) r.2) {k11 : Int32 → Int32 → zH → Option (Bool × zH)} (hk11 : ∀ (x1 : Int32) (x2 : Int32) (h : zH), k11 x1 x2 h = some r → zW K G 6 11 [(0, .ref (G.2.2.2 t0)), (1, .int x1), (2, .int x2)] [] h) (x1 : Int32) (s0 : Int32) (h : zH) (hg : g_X12_reads_342 t0 k11 x1 s0 h = some r) : zW K G 6 342 [(0, .ref (G.2.2.2 t0)), (1, .int x1)] [.int s0, .ref (G.2.2.2 t0)] h := by
  rw [g_X12_reads_342] at hg
  obtain ⟨v_59, qv_59, hg⟩ := zbind_some hg
  obtain ⟨c_60, hg⟩ := zgu_some hg
  obtain ⟨h_61, eh_61, hg⟩ := zlet_some hg
  exact z_callVv (pc := 342) hK [.int s0] (m_X12_puts (zC_D hK) ht0 qv_59) sv_X12_puts q_1593 ht0 rfl [] rfl (Nat.le_of_ble_eq_true rfl) ⟨by decide, by decide⟩ dX12_reads_342 (z_aload_n (pc := 345) hK 0 dX12_reads_345 rfl (z_getR (pc := 346) hK f_X12_51_11 ht0 dX12_reads_346 (z_iload_n (pc := 349) hK 1 dX12_reads_349 rfl (z_iconst (pc := 350) hK dX12_reads_350 zc_i0 (z_zast (pc := 351) hK (zt_11_24 ht0) c_60 dX12_reads_351 (z_nameH eh_61 (z_iconst (pc := 352) hK dX12_reads_352 zc_i1 (z_istore_n (pc := 353) hK (lv' := [(2, .int 1), (0, .ref (G.2.2.2 t0)), (1, .int x1)]) dX12_reads_353 (by decide) rfl (z_goto (pc := 354) hK 424 dX12_reads_354 (by decide) (zsub (lv' := [(0, .ref (G.2.2.2 t0)), (1, .int x1), (2, .int 1)]) [1, 2, 0] rfl (b_X12_reads_424 hK ht0 hE hk11 x1 1 h_61 hg)))))))))))
set_option maxRecDepth 100000 in
set_option maxHeartbeats 4000000 in
theorem b_X12_reads_324 {K : zK} {G : zG} (hK : zC K G cX12_reads RX12 6 2 42 (some .boolean)) {t0 : Nat} (ht0 : zT t0 = (11, 0)) {r : Bool × zH} (hE : zE K G (some (.int (zb r.1))) r.2) {k11 : Int32 → Int32 → zH → Option (Bool × zH)} (hk11 : ∀ (x1 : Int32) (x2 : Int32) (h : zH), k11 x1 x2 h = some r → zW K G 6 11 [(0, .ref (G.2.2.2 t0)), (1, .int x1), (2, .int x2)] [] h) (x1 : Int32) (h : zH) (hg : g_X12_reads_324 t0 k11 x1 h = some r) : zW K G 6 324 [(0, .ref (G.2.2.2 t0)), (1, .int x1)] [] h := by
  rw [g_X12_reads_324] at hg
  obtain ⟨v_47, qv_47, hg⟩ := zbind_some hg
  refine z_aload_n (pc := 324) hK 0 dX12_reads_324 rfl (z_aload_n (pc := 325) hK 0 dX12_reads_325 rfl (z_ldc2 (pc := 326) hK q_1524 dX12_reads_326 (z_callVi (pc := 329) hK [.long 1111] (m_X12_isWord (zC_D hK) ht0 qv_47) sv_X12_isWord q_1485 ht0 rfl [.ref (G.2.2.2 t0)] rfl (Nat.le_of_ble_eq_true rfl) ⟨by decide, by decide⟩ dX12_reads_329 (z_if_eq (pc := 332) hK 340 dX12_reads_332 (by decide) (fun c_48 => ?_) (fun c_48 => ?_)))))
  · rw [if_pos c_48] at hg
    exact z_bipush (pc := 340) hK dX12_reads_340 zc_b27 (zsub (lv' := [(0, .ref (G.2.2.2 t0)), (1, .int x1)]) [0, 1] rfl (b_X12_reads_342 hK ht0 hE hk11 x1 27 h hg))
  · rw [if_neg c_48] at hg
    exact z_bipush (pc := 335) hK dX12_reads_335 zc_b26 (z_goto (pc := 337) hK 342 dX12_reads_337 (by decide) (zsub (lv' := [(0, .ref (G.2.2.2 t0)), (1, .int x1)]) [0, 1] rfl (b_X12_reads_342 hK ht0 hE hk11 x1 26 h hg)))
set_option maxRecDepth 100000 in
set_option maxHeartbeats 4000000 in
theorem b_X12_reads_418 {K : zK} {G : zG} (hK : zC K G cX12_reads RX12 6 2 42 (some .boolean)) {t0 : Nat} (ht0 : zT t0 = (11, 0)) {r : Bool × zH} (hE : zE K G (some (.int (zb r.1))) r.2) (h : zH) (hg : g_X12_reads_418 t0 h = some r) : zW K G 6 418 [(0, .ref (G.2.2.2 t0))] [] h := by
  rw [g_X12_reads_418] at hg
  obtain ⟨v_62, qv_62, hg⟩ := zbind_some hg
  exact z_aload_n (pc := 418) hK 0 dX12_reads_418 rfl (z_iconst (pc := 419) hK dX12_reads_419 zc_i1 (z_callVi (pc := 420) hK [.int 1] (m_X12_fails (zC_D hK) ht0 qv_62) sv_X12_fails q_1493 ht0 rfl [] rfl (Nat.le_of_ble_eq_true rfl) ⟨by decide, by decide⟩ dX12_reads_420 (z_zretE (pc := 423) hK rfl hE hg dX12_reads_423)))
set_option maxRecDepth 100000 in
set_option maxHeartbeats 4000000 in
theorem b_X12_reads_399 {K : zK} {G : zG} (hK : zC K G cX12_reads RX12 6 2 42 (some .boolean)) {t0 : Nat} (ht0 : zT t0 = (11, 0)) {r : Bool × zH} (hE : zE K G (some (.int (zb r.1))) r.2) (x1 : Int32) (h : zH) (hg : g_X12_reads_399 t0 x1 h = some r) : zW K G 6 399 [(0, .ref (G.2.2.2 t0)), (1, .int x1)] [] h := by
  rw [g_X12_reads_399] at hg
  refine z_iload_n (pc := 399) hK 1 dX12_reads_399 rfl (z_if_ne (pc := 400) hK 418 dX12_reads_400 (by decide) (fun c_49 => ?_) (fun c_49 => ?_))
  · rw [if_neg c_49] at hg
    exact zsub (lv' := [(0, .ref (G.2.2.2 t0))]) [0] rfl (b_X12_reads_418 hK ht0 hE h hg)
  · rw [if_pos c_49] at hg
    obtain ⟨v_50, qv_50, hg⟩ := zbind_some hg
    refine z_aload_n (pc := 403) hK 0 dX12_reads_403 rfl (z_bipush (pc := 404) hK dX12_reads_404 zc_b59 (z_callVi (pc := 406) hK [.int 59] (m_X12_isSign (zC_D hK) ht0 qv_50) sv_X12_isSign q_1545 ht0 rfl [] rfl (Nat.le_of_ble_eq_true rfl) ⟨by decide, by decide⟩ dX12_reads_406 (z_if_eq (pc := 409) hK 418 dX12_reads_409 (by decide) (fun c_51 => ?_) (fun c_51 => ?_))))
    · rw [if_pos c_51] at hg
      exact zsub (lv' := [(0, .ref (G.2.2.2 t0))]) [0] rfl (b_X12_reads_418 hK ht0 hE h hg)
    · rw [if_neg c_51] at hg
      obtain ⟨v_52, qv_52, hg⟩ := zbind_some hg
      exact z_aload_n (pc := 412) hK 0 dX12_reads_412 rfl (z_callVv (pc := 413) hK [] (m_X12_nextToken (zC_D hK) ht0 qv_52) sv_X12_nextToken q_1474 ht0 rfl [] rfl (Nat.le_of_ble_eq_true rfl) ⟨by decide, by decide⟩ dX12_reads_413 (z_iconst (pc := 416) hK dX12_reads_416 zc_i1 (z_zretE (pc := 417) hK rfl hE hg dX12_reads_417)))
set_option maxRecDepth 100000 in
set_option maxHeartbeats 4000000 in
theorem b_X12_reads_304 {K : zK} {G : zG} (hK : zC K G cX12_reads RX12 6 2 42 (some .boolean)) {t0 : Nat} (ht0 : zT t0 = (11, 0)) {r : Bool × zH} (hE : zE K G (some (.int (zb r.1))) r.2) {k11 : Int32 → Int32 → zH → Option (Bool × zH)} (hk11 : ∀ (x1 : Int32) (x2 : Int32) (h : zH), k11 x1 x2 h = some r → zW K G 6 11 [(0, .ref (G.2.2.2 t0)), (1, .int x1), (2, .int x2)] [] h) (x1 : Int32) (x2 : Int32) (h : zH) (hg : g_X12_reads_304 t0 k11 x1 x2 h = some r) : zW K G 6 304 [(0, .ref (G.2.2.2 t0)), (1, .int x1), (2, .int x2)] [] h := by
  rw [g_X12_reads_304] at hg
  obtain ⟨v_30, qv_30, hg⟩ := zbind_some hg
  refine z_aload_n (pc := 304) hK 0 dX12_reads_304 rfl (z_ldc2 (pc := 305) hK q_1524 dX12_reads_305 (z_callVi (pc := 308) hK [.long 1111] (m_X12_isWord (zC_D hK) ht0 qv_30) sv_X12_isWord q_1485 ht0 rfl [] rfl (Nat.le_of_ble_eq_true rfl) ⟨by decide, by decide⟩ dX12_reads_308 (z_if_ne (pc := 311) hK 324 dX12_reads_311 (by decide) (fun c_31 => ?_) (fun c_31 => ?_))))
  · rw [if_neg c_31] at hg
    exact zsub (lv' := [(0, .ref (G.2.2.2 t0)), (1, .int x1)]) [0, 1] rfl (b_X12_reads_324 hK ht0 hE hk11 x1 h hg)
  · rw [if_pos c_31] at hg
    obtain ⟨v_32, qv_32, hg⟩ := zbind_some hg
    refine z_aload_n (pc := 314) hK 0 dX12_reads_314 rfl (z_ldc2 (pc := 315) hK q_1525 dX12_reads_315 (z_callVi (pc := 318) hK [.long 423] (m_X12_isWord (zC_D hK) ht0 qv_32) sv_X12_isWord q_1485 ht0 rfl [] rfl (Nat.le_of_ble_eq_true rfl) ⟨by decide, by decide⟩ dX12_reads_318 (z_if_eq (pc := 321) hK 357 dX12_reads_321 (by decide) (fun c_33 => ?_) (fun c_33 => ?_))))
    · rw [if_pos c_33] at hg
      obtain ⟨v_34, qv_34, hg⟩ := zbind_some hg
      refine z_aload_n (pc := 357) hK 0 dX12_reads_357 rfl (z_bipush (pc := 358) hK dX12_reads_358 zc_b41 (z_callVi (pc := 360) hK [.int 41] (m_X12_isSign (zC_D hK) ht0 qv_34) sv_X12_isSign q_1545 ht0 rfl [] rfl (Nat.le_of_ble_eq_true rfl) ⟨by decide, by decide⟩ dX12_reads_360 (z_if_eq (pc := 363) hK 399 dX12_reads_363 (by decide) (fun c_35 => ?_) (fun c_35 => ?_))))
      · rw [if_pos c_35] at hg
        exact zsub (lv' := [(0, .ref (G.2.2.2 t0)), (1, .int x1)]) [0, 1] rfl (b_X12_reads_399 hK ht0 hE x1 h hg)
      · rw [if_neg c_35] at hg
        refine z_iload_n (pc := 366) hK 1 dX12_reads_366 rfl (z_if_le (pc := 367) hK 399 dX12_reads_367 (by decide) (fun c_36 => ?_) (fun c_36 => ?_))
        · rw [if_pos c_36] at hg
          exact zsub (lv' := [(0, .ref (G.2.2.2 t0)), (1, .int x1)]) [0, 1] rfl (b_X12_reads_399 hK ht0 hE x1 h hg)
        · rw [if_neg c_36] at hg
          obtain ⟨v_37, qv_37, hg⟩ := zbind_some hg
          exact z_aload_n (pc := 370) hK 0 dX12_reads_370 rfl (z_bipush (pc := 371) hK dX12_reads_371 zc_b29 (z_callVv (pc := 373) hK [.int 29] (m_X12_puts (zC_D hK) ht0 qv_37) sv_X12_puts q_1593 ht0 rfl [] rfl (Nat.le_of_ble_eq_true rfl) ⟨by decide, by decide⟩ dX12_reads_373 (z_iinc (pc := 376) hK 1 (lv' := [(1, .int (x1 + (-1))), (0, .ref (G.2.2.2 t0)), (2, .int x2)]) dX12_reads_376 rfl (zc_nm1 _) (by decide) rfl (zsub (lv' := [(0, .ref (G.2.2.2 t0)), (1, .int (x1 + (-1))), (2, .int x2)]) [1, 0, 2] rfl (b_X12_reads_379 hK ht0 hE hk11 zfu (x1 + (-1)) x2 v_37 hg)))))
    · rw [if_neg c_33] at hg
      exact zsub (lv' := [(0, .ref (G.2.2.2 t0)), (1, .int x1)]) [0, 1] rfl (b_X12_reads_324 hK ht0 hE hk11 x1 h hg)
set_option maxRecDepth 100000 in
set_option maxHeartbeats 4000000 in
theorem b_X12_reads_172 {K : zK} {G : zG} (hK : zC K G cX12_reads RX12 6 2 42 (some .boolean)) {t0 : Nat} (ht0 : zT t0 = (11, 0)) {r : Bool × zH} (hE : zE K G (some (.int (zb r.1))) r.2) {k11 : Int32 → Int32 → zH → Option (Bool × zH)} (hk11 : ∀ (x1 : Int32) (x2 : Int32) (h : zH), k11 x1 x2 h = some r → zW K G 6 11 [(0, .ref (G.2.2.2 t0)), (1, .int x1), (2, .int x2)] [] h) (x1 : Int32) (x2 : Int32) (h : zH) (hg : g_X12_reads_172 t0 k11 x1 x2 h = some r) : zW K G 6 172 [(0, .ref (G.2.2.2 t0)), (1, .int x1), (2, .int x2)] [] h := by
  rw [g_X12_reads_172] at hg
  obtain ⟨v_72, qv_72, hg⟩ := zbind_some hg
  exact z_aload_n (pc := 172) hK 0 dX12_reads_172 rfl (z_callVv (pc := 173) hK [] (m_X12_nextToken (zC_D hK) ht0 qv_72) sv_X12_nextToken q_1474 ht0 rfl [] rfl (Nat.le_of_ble_eq_true rfl) ⟨by decide, by decide⟩ dX12_reads_173 (z_goto (pc := 176) hK 11 dX12_reads_176 (by decide) (zsub (lv' := [(0, .ref (G.2.2.2 t0)), (1, .int x1), (2, .int x2)]) [0, 1, 2] rfl (hk11 x1 x2 v_72 hg))))
set_option maxRecDepth 100000 in
set_option maxHeartbeats 4000000 in
theorem b_X12_reads_152 {K : zK} {G : zG} (hK : zC K G cX12_reads RX12 6 2 42 (some .boolean)) {t0 : Nat} (ht0 : zT t0 = (11, 0)) {r : Bool × zH} (hE : zE K G (some (.int (zb r.1))) r.2) {k11 : Int32 → Int32 → zH → Option (Bool × zH)} (hk11 : ∀ (x1 : Int32) (x2 : Int32) (h : zH), k11 x1 x2 h = some r → zW K G 6 11 [(0, .ref (G.2.2.2 t0)), (1, .int x1), (2, .int x2)] [] h) : ∀ (n : Nat) (x1 : Int32) (x2 : Int32) (h : zH), g_X12_reads_152 t0 k11 n x1 x2 h = some r → zW K G 6 152 [(0, .ref (G.2.2.2 t0)), (1, .int x1), (2, .int x2)] [] h := by
  intro n
  induction n with
  | zero => intro x1 x2 h hg; exact nomatch (show none = some r from hg)
  | succ n ih =>
    intro x1 x2 h hg
    rw [g_X12_reads_152] at hg
    refine z_iload_n (pc := 152) hK 1 dX12_reads_152 rfl (z_if_le (pc := 153) hK 172 dX12_reads_153 (by decide) (fun c_65 => ?_) (fun c_65 => ?_))
    · rw [if_pos c_65] at hg
      exact zsub (lv' := [(0, .ref (G.2.2.2 t0)), (1, .int x1), (2, .int x2)]) [0, 1, 2] rfl (b_X12_reads_172 hK ht0 hE hk11 x1 x2 h hg)
    · rw [if_neg c_65] at hg
      obtain ⟨c_66, hg⟩ := zgu_some hg
      refine z_aload_n (pc := 156) hK 0 dX12_reads_156 rfl (z_getR (pc := 157) hK f_X12_48_11 ht0 dX12_reads_157 (z_iload_n (pc := 160) hK 1 dX12_reads_160 rfl (z_iald (pc := 161) hK (zt_11_23 ht0) c_66 dX12_reads_161 (z_iconst (pc := 162) hK dX12_reads_162 zc_i1 (z_icmp_ne (pc := 163) hK 172 dX12_reads_163 (by decide) (fun c_67 => ?_) (fun c_67 => ?_))))))
      · rw [if_neg c_67] at hg
        exact zsub (lv' := [(0, .ref (G.2.2.2 t0)), (1, .int x1), (2, .int x2)]) [0, 1, 2] rfl (b_X12_reads_172 hK ht0 hE hk11 x1 x2 h hg)
      · rw [if_pos c_67] at hg
        exact z_iinc (pc := 166) hK 1 (lv' := [(1, .int (x1 + (-1))), (0, .ref (G.2.2.2 t0)), (2, .int x2)]) dX12_reads_166 rfl (zc_nm1 _) (by decide) rfl (z_goto (pc := 169) hK 152 dX12_reads_169 (by decide) (zsub (lv' := [(0, .ref (G.2.2.2 t0)), (1, .int (x1 + (-1))), (2, .int x2)]) [1, 0, 2] rfl (ih (x1 + (-1)) x2 h hg)))
set_option maxRecDepth 100000 in
set_option maxHeartbeats 4000000 in
theorem b_X12_reads_147 {K : zK} {G : zG} (hK : zC K G cX12_reads RX12 6 2 42 (some .boolean)) {t0 : Nat} (ht0 : zT t0 = (11, 0)) {r : Bool × zH} (hE : zE K G (some (.int (zb r.1))) r.2) {k11 : Int32 → Int32 → zH → Option (Bool × zH)} (hk11 : ∀ (x1 : Int32) (x2 : Int32) (h : zH), k11 x1 x2 h = some r → zW K G 6 11 [(0, .ref (G.2.2.2 t0)), (1, .int x1), (2, .int x2)] [] h) (x1 : Int32) (s0 : Int32) (h : zH) (hg : g_X12_reads_147 t0 k11 x1 s0 h = some r) : zW K G 6 147 [(0, .ref (G.2.2.2 t0)), (1, .int x1)] [.int s0, .ref (G.2.2.2 t0)] h := by
  rw [g_X12_reads_147] at hg
  obtain ⟨v_57, qv_57, hg⟩ := zbind_some hg
  exact z_callVv (pc := 147) hK [.int s0] (m_X12_puts (zC_D hK) ht0 qv_57) sv_X12_puts q_1593 ht0 rfl [] rfl (Nat.le_of_ble_eq_true rfl) ⟨by decide, by decide⟩ dX12_reads_147 (z_iconst (pc := 150) hK dX12_reads_150 zc_i0 (z_istore_n (pc := 151) hK (lv' := [(2, .int 0), (0, .ref (G.2.2.2 t0)), (1, .int x1)]) dX12_reads_151 (by decide) rfl (zsub (lv' := [(0, .ref (G.2.2.2 t0)), (1, .int x1), (2, .int 0)]) [1, 2, 0] rfl (b_X12_reads_152 hK ht0 hE hk11 zfu x1 0 v_57 hg))))
set_option maxRecDepth 100000 in
set_option maxHeartbeats 4000000 in
theorem b_X12_reads_120 {K : zK} {G : zG} (hK : zC K G cX12_reads RX12 6 2 42 (some .boolean)) {t0 : Nat} (ht0 : zT t0 = (11, 0)) {r : Bool × zH} (hE : zE K G (some (.int (zb r.1))) r.2) {k11 : Int32 → Int32 → zH → Option (Bool × zH)} (hk11 : ∀ (x1 : Int32) (x2 : Int32) (h : zH), k11 x1 x2 h = some r → zW K G 6 11 [(0, .ref (G.2.2.2 t0)), (1, .int x1), (2, .int x2)] [] h) (x1 : Int32) (x2 : Int32) (s0 : Int32) (s1 : Int32) (h : zH) (hg : g_X12_reads_120 t0 k11 x1 x2 s0 s1 h = some r) : zW K G 6 120 [(0, .ref (G.2.2.2 t0)), (1, .int x1), (2, .int x2)] [.int s0, .int s1, .ref (G.2.2.2 (zR t0 23))] h := by
  rw [g_X12_reads_120] at hg
  obtain ⟨c_68, hg⟩ := zgu_some hg
  obtain ⟨h_69, eh_69, hg⟩ := zlet_some hg
  obtain ⟨c_70, hg⟩ := zgu_some hg
  obtain ⟨h_71, eh_71, hg⟩ := zlet_some hg
  exact z_iast (pc := 120) hK (zt_11_23 ht0) c_68 dX12_reads_120 (z_nameH eh_69 (z_aload_n (pc := 121) hK 0 dX12_reads_121 rfl (z_getR (pc := 122) hK f_X12_51_11 ht0 dX12_reads_122 (z_iload_n (pc := 125) hK 1 dX12_reads_125 rfl (z_iconst (pc := 126) hK dX12_reads_126 zc_i0 (z_zast (pc := 127) hK (zt_11_24 ht0) c_70 dX12_reads_127 (z_nameH eh_71 (z_goto (pc := 128) hK 172 dX12_reads_128 (by decide) (zsub (lv' := [(0, .ref (G.2.2.2 t0)), (1, .int x1), (2, .int x2)]) [0, 1, 2] rfl (b_X12_reads_172 hK ht0 hE hk11 x1 x2 h_71 hg))))))))))
set_option maxRecDepth 100000 in
set_option maxHeartbeats 4000000 in
theorem b_X12_reads_99 {K : zK} {G : zG} (hK : zC K G cX12_reads RX12 6 2 42 (some .boolean)) {t0 : Nat} (ht0 : zT t0 = (11, 0)) {r : Bool × zH} (hE : zE K G (some (.int (zb r.1))) r.2) {k11 : Int32 → Int32 → zH → Option (Bool × zH)} (hk11 : ∀ (x1 : Int32) (x2 : Int32) (h : zH), k11 x1 x2 h = some r → zW K G 6 11 [(0, .ref (G.2.2.2 t0)), (1, .int x1), (2, .int x2)] [] h) (x1 : Int32) (x2 : Int32) (x4 : Int32) (s0 : Int32) (h : zH) (hg : g_X12_reads_99 t0 k11 x1 x2 x4 s0 h = some r) : zW K G 6 99 [(0, .ref (G.2.2.2 t0)), (1, .int x1), (2, .int x2), (4, .int x4)] [.int s0, .ref (G.2.2.2 t0)] h := by
  rw [g_X12_reads_99] at hg
  obtain ⟨v_63, qv_63, hg⟩ := zbind_some hg
  refine z_callVv (pc := 99) hK [.int s0] (m_X12_puts (zC_D hK) ht0 qv_63) sv_X12_puts q_1593 ht0 rfl [] rfl (Nat.le_of_ble_eq_true rfl) ⟨by decide, by decide⟩ dX12_reads_99 (z_iinc (pc := 102) hK 1 (lv' := [(1, .int (x1 + 1)), (0, .ref (G.2.2.2 t0)), (2, .int x2), (4, .int x4)]) dX12_reads_102 rfl (zc_n1 _) (by decide) rfl (z_aload_n (pc := 105) hK 1 dX12_reads_105 rfl (z_getR (pc := 106) hK f_X12_48_11 ht0 dX12_reads_106 (z_iload_n (pc := 109) hK 0 dX12_reads_109 rfl (z_iload (pc := 110) hK 3 dX12_reads_110 rfl (z_if_eq (pc := 112) hK 119 dX12_reads_112 (by decide) (fun c_64 => ?_) (fun c_64 => ?_)))))))
  · rw [if_pos c_64] at hg
    exact z_iconst (pc := 119) hK dX12_reads_119 zc_i2 (zsub (lv' := [(0, .ref (G.2.2.2 t0)), (1, .int (x1 + 1)), (2, .int x2)]) [1, 0, 2] rfl (b_X12_reads_120 hK ht0 hE hk11 (x1 + 1) x2 2 (x1 + 1) v_63 hg))
  · rw [if_neg c_64] at hg
    exact z_iconst (pc := 115) hK dX12_reads_115 zc_i1 (z_goto (pc := 116) hK 120 dX12_reads_116 (by decide) (zsub (lv' := [(0, .ref (G.2.2.2 t0)), (1, .int (x1 + 1)), (2, .int x2)]) [1, 0, 2] rfl (b_X12_reads_120 hK ht0 hE hk11 (x1 + 1) x2 1 (x1 + 1) v_63 hg)))
set_option maxRecDepth 100000 in
set_option maxHeartbeats 4000000 in
theorem b_X12_reads_86 {K : zK} {G : zG} (hK : zC K G cX12_reads RX12 6 2 42 (some .boolean)) {t0 : Nat} (ht0 : zT t0 = (11, 0)) {r : Bool × zH} (hE : zE K G (some (.int (zb r.1))) r.2) {k11 : Int32 → Int32 → zH → Option (Bool × zH)} (hk11 : ∀ (x1 : Int32) (x2 : Int32) (h : zH), k11 x1 x2 h = some r → zW K G 6 11 [(0, .ref (G.2.2.2 t0)), (1, .int x1), (2, .int x2)] [] h) (x1 : Int32) (x2 : Int32) (x4 : Int32) (h : zH) (hg : g_X12_reads_86 t0 k11 x1 x2 x4 h = some r) : zW K G 6 86 [(0, .ref (G.2.2.2 t0)), (1, .int x1), (2, .int x2), (4, .int x4)] [] h := by
  rw [g_X12_reads_86] at hg
  refine z_aload_n (pc := 86) hK 0 dX12_reads_86 rfl (z_iload (pc := 87) hK 3 dX12_reads_87 rfl (z_if_eq (pc := 89) hK 97 dX12_reads_89 (by decide) (fun c_56 => ?_) (fun c_56 => ?_)))
  · rw [if_pos c_56] at hg
    exact z_bipush (pc := 97) hK dX12_reads_97 zc_b28 (zsub (lv' := [(0, .ref (G.2.2.2 t0)), (1, .int x1), (2, .int x2), (4, .int x4)]) [0, 1, 2, 3] rfl (b_X12_reads_99 hK ht0 hE hk11 x1 x2 x4 28 h hg))
  · rw [if_neg c_56] at hg
    exact z_bipush (pc := 92) hK dX12_reads_92 zc_b30 (z_goto (pc := 94) hK 99 dX12_reads_94 (by decide) (zsub (lv' := [(0, .ref (G.2.2.2 t0)), (1, .int x1), (2, .int x2), (4, .int x4)]) [0, 1, 2, 3] rfl (b_X12_reads_99 hK ht0 hE hk11 x1 x2 x4 30 h hg)))
set_option maxRecDepth 100000 in
set_option maxHeartbeats 4000000 in
theorem b_X12_reads_65 {K : zK} {G : zG} (hK : zC K G cX12_reads RX12 6 2 42 (some .boolean)) {t0 : Nat} (ht0 : zT t0 = (11, 0)) {r : Bool × zH} (hE : zE K G (some (.int (zb r.1))) r.2) {k11 : Int32 → Int32 → zH → Option (Bool × zH)} (hk11 : ∀ (x1 : Int32) (x2 : Int32) (h : zH), k11 x1 x2 h = some r → zW K G 6 11 [(0, .ref (G.2.2.2 t0)), (1, .int x1), (2, .int x2)] [] h) (x1 : Int32) (x2 : Int32) (x3 : Int32) (x4 : Int32) (x5 : Int32) (h : zH) (hg : g_X12_reads_65 t0 k11 x1 x2 x3 x4 x5 h = some r) : zW K G 6 65 [(0, .ref (G.2.2.2 t0)), (1, .int x1), (2, .int x2), (3, .int x3), (4, .int x4), (5, .int x5)] [] h := by
  rw [g_X12_reads_65] at hg
  refine z_iload_n (pc := 65) hK 1 dX12_reads_65 rfl (z_iconst (pc := 66) hK dX12_reads_66 zc_i5 (z_icmp_ne (pc := 67) hK 76 dX12_reads_67 (by decide) (fun c_38 => ?_) (fun c_38 => ?_)))
  · rw [if_neg c_38] at hg
    refine z_iload (pc := 76) hK 4 dX12_reads_76 rfl (z_if_ne (pc := 78) hK 86 dX12_reads_78 (by decide) (fun c_39 => ?_) (fun c_39 => ?_))
    · rw [if_neg c_39] at hg
      exact zsub (lv' := [(0, .ref (G.2.2.2 t0)), (1, .int x1), (2, .int x2), (4, .int x4)]) [0, 1, 2, 4] rfl (b_X12_reads_86 hK ht0 hE hk11 x1 x2 x4 h hg)
    · rw [if_pos c_39] at hg
      refine z_iload (pc := 81) hK 5 dX12_reads_81 rfl (z_if_eq (pc := 83) hK 131 dX12_reads_83 (by decide) (fun c_40 => ?_) (fun c_40 => ?_))
      · rw [if_pos c_40] at hg
        refine z_aload_n (pc := 131) hK 0 dX12_reads_131 rfl (z_iload_n (pc := 132) hK 3 dX12_reads_132 rfl (z_if_le (pc := 133) hK 140 dX12_reads_133 (by decide) (fun c_41 => ?_) (fun c_41 => ?_)))
        · rw [if_pos c_41] at hg
          exact z_bipush (pc := 140) hK dX12_reads_140 zc_b100 (z_aload_n (pc := 142) hK 0 dX12_reads_142 rfl (z_getI (pc := 143) hK f_X12_148_11 ht0 dX12_reads_143 (z_iadd (pc := 146) hK dX12_reads_146 (zsub (lv' := [(0, .ref (G.2.2.2 t0)), (1, .int x1)]) [0, 1] rfl (b_X12_reads_147 hK ht0 hE hk11 x1 (100 + (h.1 t0 8)) h hg)))))
        · rw [if_neg c_41] at hg
          exact z_iload_n (pc := 136) hK 3 dX12_reads_136 rfl (z_goto (pc := 137) hK 147 dX12_reads_137 (by decide) (zsub (lv' := [(0, .ref (G.2.2.2 t0)), (1, .int x1)]) [0, 1] rfl (b_X12_reads_147 hK ht0 hE hk11 x1 x3 h hg)))
      · rw [if_neg c_40] at hg
        exact zsub (lv' := [(0, .ref (G.2.2.2 t0)), (1, .int x1), (2, .int x2), (4, .int x4)]) [0, 1, 2, 4] rfl (b_X12_reads_86 hK ht0 hE hk11 x1 x2 x4 h hg)
  · rw [if_pos c_38] at hg
    obtain ⟨v_42, qv_42, hg⟩ := zbind_some hg
    exact z_aload_n (pc := 70) hK 0 dX12_reads_70 rfl (z_iconst (pc := 71) hK dX12_reads_71 zc_i5 (z_callVi (pc := 72) hK [.int 5] (m_X12_fails (zC_D hK) ht0 qv_42) sv_X12_fails q_1493 ht0 rfl [] rfl (Nat.le_of_ble_eq_true rfl) ⟨by decide, by decide⟩ dX12_reads_72 (z_zretE (pc := 75) hK rfl hE hg dX12_reads_75)))
set_option maxRecDepth 100000 in
set_option maxHeartbeats 4000000 in
theorem b_X12_reads_237 {K : zK} {G : zG} (hK : zC K G cX12_reads RX12 6 2 42 (some .boolean)) {t0 : Nat} (ht0 : zT t0 = (11, 0)) {r : Bool × zH} (hE : zE K G (some (.int (zb r.1))) r.2) {k11 : Int32 → Int32 → zH → Option (Bool × zH)} (hk11 : ∀ (x1 : Int32) (x2 : Int32) (h : zH), k11 x1 x2 h = some r → zW K G 6 11 [(0, .ref (G.2.2.2 t0)), (1, .int x1), (2, .int x2)] [] h) (x1 : Int32) (s0 : Int32) (h : zH) (hg : g_X12_reads_237 t0 k11 x1 s0 h = some r) : zW K G 6 237 [(0, .ref (G.2.2.2 t0)), (1, .int x1)] [.int s0, .ref (G.2.2.2 t0)] h := by
  rw [g_X12_reads_237] at hg
  obtain ⟨v_43, qv_43, hg⟩ := zbind_some hg
  exact z_callVv (pc := 237) hK [.int s0] (m_X12_puts (zC_D hK) ht0 qv_43) sv_X12_puts q_1593 ht0 rfl [] rfl (Nat.le_of_ble_eq_true rfl) ⟨by decide, by decide⟩ dX12_reads_237 (z_iconst (pc := 240) hK dX12_reads_240 zc_i1 (z_istore_n (pc := 241) hK (lv' := [(2, .int 1), (0, .ref (G.2.2.2 t0)), (1, .int x1)]) dX12_reads_241 (by decide) rfl (z_goto (pc := 242) hK 424 dX12_reads_242 (by decide) (zsub (lv' := [(0, .ref (G.2.2.2 t0)), (1, .int x1), (2, .int 1)]) [1, 2, 0] rfl (b_X12_reads_424 hK ht0 hE hk11 x1 1 v_43 hg)))))
set_option maxRecDepth 100000 in
set_option maxHeartbeats 4000000 in
theorem b_X12_reads_206 {K : zK} {G : zG} (hK : zC K G cX12_reads RX12 6 2 42 (some .boolean)) {t0 : Nat} (ht0 : zT t0 = (11, 0)) {r : Bool × zH} (hE : zE K G (some (.int (zb r.1))) r.2) {k11 : Int32 → Int32 → zH → Option (Bool × zH)} (hk11 : ∀ (x1 : Int32) (x2 : Int32) (h : zH), k11 x1 x2 h = some r → zW K G 6 11 [(0, .ref (G.2.2.2 t0)), (1, .int x1), (2, .int x2)] [] h) (x1 : Int32) (h : zH) (hg : g_X12_reads_206 t0 k11 x1 h = some r) : zW K G 6 206 [(0, .ref (G.2.2.2 t0)), (1, .int x1)] [] h := by
  rw [g_X12_reads_206] at hg
  obtain ⟨v_22, qv_22, hg⟩ := zbind_some hg
  refine z_aload_n (pc := 206) hK 0 dX12_reads_206 rfl (z_aload_n (pc := 207) hK 0 dX12_reads_207 rfl (z_bipush (pc := 208) hK dX12_reads_208 zc_b43 (z_callVi (pc := 210) hK [.int 43] (m_X12_isSign (zC_D hK) ht0 qv_22) sv_X12_isSign q_1545 ht0 rfl [.ref (G.2.2.2 t0)] rfl (Nat.le_of_ble_eq_true rfl) ⟨by decide, by decide⟩ dX12_reads_210 (z_if_eq (pc := 213) hK 221 dX12_reads_213 (by decide) (fun c_23 => ?_) (fun c_23 => ?_)))))
  · rw [if_pos c_23] at hg
    obtain ⟨v_24, qv_24, hg⟩ := zbind_some hg
    refine z_aload_n (pc := 221) hK 0 dX12_reads_221 rfl (z_bipush (pc := 222) hK dX12_reads_222 zc_b45 (z_callVi (pc := 224) hK [.int 45] (m_X12_isSign (zC_D hK) ht0 qv_24) sv_X12_isSign q_1545 ht0 rfl [.ref (G.2.2.2 t0)] rfl (Nat.le_of_ble_eq_true rfl) ⟨by decide, by decide⟩ dX12_reads_224 (z_if_eq (pc := 227) hK 235 dX12_reads_227 (by decide) (fun c_25 => ?_) (fun c_25 => ?_))))
    · rw [if_pos c_25] at hg
      exact z_bipush (pc := 235) hK dX12_reads_235 zc_b22 (zsub (lv' := [(0, .ref (G.2.2.2 t0)), (1, .int x1)]) [0, 1] rfl (b_X12_reads_237 hK ht0 hE hk11 x1 22 h hg))
    · rw [if_neg c_25] at hg
      exact z_bipush (pc := 230) hK dX12_reads_230 zc_b21 (z_goto (pc := 232) hK 237 dX12_reads_232 (by decide) (zsub (lv' := [(0, .ref (G.2.2.2 t0)), (1, .int x1)]) [0, 1] rfl (b_X12_reads_237 hK ht0 hE hk11 x1 21 h hg)))
  · rw [if_neg c_23] at hg
    exact z_bipush (pc := 216) hK dX12_reads_216 zc_b20 (z_goto (pc := 218) hK 237 dX12_reads_218 (by decide) (zsub (lv' := [(0, .ref (G.2.2.2 t0)), (1, .int x1)]) [0, 1] rfl (b_X12_reads_237 hK ht0 hE hk11 x1 20 h hg)))
set_option maxRecDepth 100000 in
set_option maxHeartbeats 4000000 in
theorem b_X12_reads_289 {K : zK} {G : zG} (hK : zC K G cX12_reads RX12 6 2 42 (some .boolean)) {t0 : Nat} (ht0 : zT t0 = (11, 0)) {r : Bool × zH} (hE : zE K G (some (.int (zb r.1))) r.2) {k11 : Int32 → Int32 → zH → Option (Bool × zH)} (hk11 : ∀ (x1 : Int32) (x2 : Int32) (h : zH), k11 x1 x2 h = some r → zW K G 6 11 [(0, .ref (G.2.2.2 t0)), (1, .int x1), (2, .int x2)] [] h) (x1 : Int32) (s0 : Int32) (h : zH) (hg : g_X12_reads_289 t0 k11 x1 s0 h = some r) : zW K G 6 289 [(0, .ref (G.2.2.2 t0)), (1, .int x1)] [.int s0, .ref (G.2.2.2 t0)] h := by
  rw [g_X12_reads_289] at hg
  obtain ⟨v_44, qv_44, hg⟩ := zbind_some hg
  obtain ⟨c_45, hg⟩ := zgu_some hg
  obtain ⟨h_46, eh_46, hg⟩ := zlet_some hg
  exact z_callVv (pc := 289) hK [.int s0] (m_X12_puts (zC_D hK) ht0 qv_44) sv_X12_puts q_1593 ht0 rfl [] rfl (Nat.le_of_ble_eq_true rfl) ⟨by decide, by decide⟩ dX12_reads_289 (z_aload_n (pc := 292) hK 0 dX12_reads_292 rfl (z_getR (pc := 293) hK f_X12_51_11 ht0 dX12_reads_293 (z_iload_n (pc := 296) hK 1 dX12_reads_296 rfl (z_iconst (pc := 297) hK dX12_reads_297 zc_i1 (z_zast (pc := 298) hK (zt_11_24 ht0) c_45 dX12_reads_298 (z_nameH eh_46 (z_iconst (pc := 299) hK dX12_reads_299 zc_i1 (z_istore_n (pc := 300) hK (lv' := [(2, .int 1), (0, .ref (G.2.2.2 t0)), (1, .int x1)]) dX12_reads_300 (by decide) rfl (z_goto (pc := 301) hK 424 dX12_reads_301 (by decide) (zsub (lv' := [(0, .ref (G.2.2.2 t0)), (1, .int x1), (2, .int 1)]) [1, 2, 0] rfl (b_X12_reads_424 hK ht0 hE hk11 x1 1 h_46 hg)))))))))))
set_option maxRecDepth 100000 in
set_option maxHeartbeats 4000000 in
theorem b_X12_reads_263 {K : zK} {G : zG} (hK : zC K G cX12_reads RX12 6 2 42 (some .boolean)) {t0 : Nat} (ht0 : zT t0 = (11, 0)) {r : Bool × zH} (hE : zE K G (some (.int (zb r.1))) r.2) {k11 : Int32 → Int32 → zH → Option (Bool × zH)} (hk11 : ∀ (x1 : Int32) (x2 : Int32) (h : zH), k11 x1 x2 h = some r → zW K G 6 11 [(0, .ref (G.2.2.2 t0)), (1, .int x1), (2, .int x2)] [] h) (x1 : Int32) (x2 : Int32) (h : zH) (hg : g_X12_reads_263 t0 k11 x1 x2 h = some r) : zW K G 6 263 [(0, .ref (G.2.2.2 t0)), (1, .int x1), (2, .int x2)] [] h := by
  rw [g_X12_reads_263] at hg
  obtain ⟨c_26, hg⟩ := zgu_some hg
  refine z_aload_n (pc := 263) hK 0 dX12_reads_263 rfl (z_getR (pc := 264) hK f_X12_51_11 ht0 dX12_reads_264 (z_iload_n (pc := 267) hK 1 dX12_reads_267 rfl (z_zald (pc := 268) hK (zt_11_24 ht0) c_26 dX12_reads_268 (z_if_ne (pc := 269) hK 304 dX12_reads_269 (by decide) (fun c_27 => ?_) (fun c_27 => ?_)))))
  · rw [if_neg c_27] at hg
    exact zsub (lv' := [(0, .ref (G.2.2.2 t0)), (1, .int x1), (2, .int x2)]) [0, 1, 2] rfl (b_X12_reads_304 hK ht0 hE hk11 x1 x2 h hg)
  · rw [if_pos c_27] at hg
    obtain ⟨v_28, qv_28, hg⟩ := zbind_some hg
    refine z_aload_n (pc := 272) hK 0 dX12_reads_272 rfl (z_aload_n (pc := 273) hK 0 dX12_reads_273 rfl (z_bipush (pc := 274) hK dX12_reads_274 zc_b60 (z_callVi (pc := 276) hK [.int 60] (m_X12_isSign (zC_D hK) ht0 qv_28) sv_X12_isSign q_1545 ht0 rfl [.ref (G.2.2.2 t0)] rfl (Nat.le_of_ble_eq_true rfl) ⟨by decide, by decide⟩ dX12_reads_276 (z_if_eq (pc := 279) hK 287 dX12_reads_279 (by decide) (fun c_29 => ?_) (fun c_29 => ?_)))))
    · rw [if_pos c_29] at hg
      exact z_bipush (pc := 287) hK dX12_reads_287 zc_b25 (zsub (lv' := [(0, .ref (G.2.2.2 t0)), (1, .int x1)]) [0, 1] rfl (b_X12_reads_289 hK ht0 hE hk11 x1 25 h hg))
    · rw [if_neg c_29] at hg
      exact z_bipush (pc := 282) hK dX12_reads_282 zc_b24 (z_goto (pc := 284) hK 289 dX12_reads_284 (by decide) (zsub (lv' := [(0, .ref (G.2.2.2 t0)), (1, .int x1)]) [0, 1] rfl (b_X12_reads_289 hK ht0 hE hk11 x1 24 h hg)))
set_option maxRecDepth 100000 in
set_option maxHeartbeats 4000000 in
theorem b_X12_reads_11 {K : zK} {G : zG} (hK : zC K G cX12_reads RX12 6 2 42 (some .boolean)) {t0 : Nat} (ht0 : zT t0 = (11, 0)) {r : Bool × zH} (hE : zE K G (some (.int (zb r.1))) r.2) : ∀ (n : Nat) (x1 : Int32) (x2 : Int32) (h : zH), g_X12_reads_11 t0 n x1 x2 h = some r → zW K G 6 11 [(0, .ref (G.2.2.2 t0)), (1, .int x1), (2, .int x2)] [] h := by
  intro n
  induction n with
  | zero => intro x1 x2 h hg; exact nomatch (show none = some r from hg)
  | succ n ih =>
    intro x1 x2 h hg
    rw [g_X12_reads_11] at hg
    refine z_iload_n (pc := 11) hK 2 dX12_reads_11 rfl (z_if_eq (pc := 12) hK 179 dX12_reads_12 (by decide) (fun c_3 => ?_) (fun c_3 => ?_))
    · rw [if_pos c_3] at hg
      obtain ⟨v_4, qv_4, hg⟩ := zbind_some hg
      refine z_aload_n (pc := 179) hK 0 dX12_reads_179 rfl (z_bipush (pc := 180) hK dX12_reads_180 zc_b43 (z_callVi (pc := 182) hK [.int 43] (m_X12_isSign (zC_D hK) ht0 qv_4) sv_X12_isSign q_1545 ht0 rfl [] rfl (Nat.le_of_ble_eq_true rfl) ⟨by decide, by decide⟩ dX12_reads_182 (z_if_ne (pc := 185) hK 206 dX12_reads_185 (by decide) (fun c_5 => ?_) (fun c_5 => ?_))))
      · rw [if_neg c_5] at hg
        exact zsub (lv' := [(0, .ref (G.2.2.2 t0)), (1, .int x1)]) [0, 1] rfl (b_X12_reads_206 hK ht0 hE ih x1 h hg)
      · rw [if_pos c_5] at hg
        obtain ⟨v_6, qv_6, hg⟩ := zbind_some hg
        refine z_aload_n (pc := 188) hK 0 dX12_reads_188 rfl (z_bipush (pc := 189) hK dX12_reads_189 zc_b45 (z_callVi (pc := 191) hK [.int 45] (m_X12_isSign (zC_D hK) ht0 qv_6) sv_X12_isSign q_1545 ht0 rfl [] rfl (Nat.le_of_ble_eq_true rfl) ⟨by decide, by decide⟩ dX12_reads_191 (z_if_ne (pc := 194) hK 206 dX12_reads_194 (by decide) (fun c_7 => ?_) (fun c_7 => ?_))))
        · rw [if_neg c_7] at hg
          exact zsub (lv' := [(0, .ref (G.2.2.2 t0)), (1, .int x1)]) [0, 1] rfl (b_X12_reads_206 hK ht0 hE ih x1 h hg)
        · rw [if_pos c_7] at hg
          obtain ⟨v_8, qv_8, hg⟩ := zbind_some hg
          refine z_aload_n (pc := 197) hK 0 dX12_reads_197 rfl (z_bipush (pc := 198) hK dX12_reads_198 zc_b42 (z_callVi (pc := 200) hK [.int 42] (m_X12_isSign (zC_D hK) ht0 qv_8) sv_X12_isSign q_1545 ht0 rfl [] rfl (Nat.le_of_ble_eq_true rfl) ⟨by decide, by decide⟩ dX12_reads_200 (z_if_eq (pc := 203) hK 245 dX12_reads_203 (by decide) (fun c_9 => ?_) (fun c_9 => ?_))))
          · rw [if_pos c_9] at hg
            obtain ⟨v_10, qv_10, hg⟩ := zbind_some hg
            refine z_aload_n (pc := 245) hK 0 dX12_reads_245 rfl (z_bipush (pc := 246) hK dX12_reads_246 zc_b60 (z_callVi (pc := 248) hK [.int 60] (m_X12_isSign (zC_D hK) ht0 qv_10) sv_X12_isSign q_1545 ht0 rfl [] rfl (Nat.le_of_ble_eq_true rfl) ⟨by decide, by decide⟩ dX12_reads_248 (z_if_ne (pc := 251) hK 263 dX12_reads_251 (by decide) (fun c_11 => ?_) (fun c_11 => ?_))))
            · rw [if_neg c_11] at hg
              exact zsub (lv' := [(0, .ref (G.2.2.2 t0)), (1, .int x1), (2, .int x2)]) [0, 1, 2] rfl (b_X12_reads_263 hK ht0 hE ih x1 x2 h hg)
            · rw [if_pos c_11] at hg
              obtain ⟨v_12, qv_12, hg⟩ := zbind_some hg
              refine z_aload_n (pc := 254) hK 0 dX12_reads_254 rfl (z_bipush (pc := 255) hK dX12_reads_255 zc_b61 (z_callVi (pc := 257) hK [.int 61] (m_X12_isSign (zC_D hK) ht0 qv_12) sv_X12_isSign q_1545 ht0 rfl [] rfl (Nat.le_of_ble_eq_true rfl) ⟨by decide, by decide⟩ dX12_reads_257 (z_if_eq (pc := 260) hK 304 dX12_reads_260 (by decide) (fun c_13 => ?_) (fun c_13 => ?_))))
              · rw [if_pos c_13] at hg
                exact zsub (lv' := [(0, .ref (G.2.2.2 t0)), (1, .int x1), (2, .int x2)]) [0, 1, 2] rfl (b_X12_reads_304 hK ht0 hE ih x1 x2 h hg)
              · rw [if_neg c_13] at hg
                exact zsub (lv' := [(0, .ref (G.2.2.2 t0)), (1, .int x1), (2, .int x2)]) [0, 1, 2] rfl (b_X12_reads_263 hK ht0 hE ih x1 x2 h hg)
          · rw [if_neg c_9] at hg
            exact zsub (lv' := [(0, .ref (G.2.2.2 t0)), (1, .int x1)]) [0, 1] rfl (b_X12_reads_206 hK ht0 hE ih x1 h hg)
    · rw [if_neg c_3] at hg
      obtain ⟨v_14, qv_14, hg⟩ := zbind_some hg
      obtain ⟨v_15, qv_15, hg⟩ := zbind_some hg
      obtain ⟨v_16, qv_16, hg⟩ := zbind_some hg
      refine z_aload_n (pc := 15) hK 0 dX12_reads_15 rfl (z_callVi (pc := 16) hK [] (m_X12_fact (zC_D hK) ht0 qv_14) sv_X12_fact q_1585 ht0 rfl [] rfl (Nat.le_of_ble_eq_true rfl) ⟨by decide, by decide⟩ dX12_reads_16 (z_istore_n (pc := 19) hK (lv' := [(3, .int v_14), (0, .ref (G.2.2.2 t0)), (1, .int x1), (2, .int x2)]) dX12_reads_19 (by decide) rfl (z_aload_n (pc := 20) hK 1 dX12_reads_20 rfl (z_ldc2 (pc := 21) hK q_1523 dX12_reads_21 (z_callVi (pc := 24) hK [.long 10631] (m_X12_isWord (zC_D hK) ht0 qv_15) sv_X12_isWord q_1485 ht0 rfl [] rfl (Nat.le_of_ble_eq_true rfl) ⟨by decide, by decide⟩ dX12_reads_24 (z_istore (pc := 27) hK (lv' := [(4, .int (zb v_15)), (3, .int v_14), (0, .ref (G.2.2.2 t0)), (1, .int x1), (2, .int x2)]) dX12_reads_27 (by decide) rfl (z_aload_n (pc := 29) hK 2 dX12_reads_29 rfl (z_bipush (pc := 30) hK dX12_reads_30 zc_b40 (z_callVi (pc := 32) hK [.int 40] (m_X12_isSign (zC_D hK) ht0 qv_16) sv_X12_isSign q_1545 ht0 rfl [] rfl (Nat.le_of_ble_eq_true rfl) ⟨by decide, by decide⟩ dX12_reads_32 (z_istore (pc := 35) hK (lv' := [(5, .int (zb v_16)), (4, .int (zb v_15)), (3, .int v_14), (0, .ref (G.2.2.2 t0)), (1, .int x1), (2, .int x2)]) dX12_reads_35 (by decide) rfl (z_iload_n (pc := 37) hK 2 dX12_reads_37 rfl (z_if_ne (pc := 38) hK 65 dX12_reads_38 (by decide) (fun c_17 => ?_) (fun c_17 => ?_)))))))))))))
      · rw [if_neg c_17] at hg
        exact zsub (lv' := [(0, .ref (G.2.2.2 t0)), (1, .int x1), (2, .int x2), (3, .int v_14), (4, .int (zb v_15)), (5, .int (zb v_16))]) [3, 4, 5, 2, 1, 0] rfl (b_X12_reads_65 hK ht0 hE ih x1 x2 v_14 (zb v_15) (zb v_16) h hg)
      · rw [if_pos c_17] at hg
        refine z_iload (pc := 41) hK 1 dX12_reads_41 rfl (z_if_ne (pc := 43) hK 65 dX12_reads_43 (by decide) (fun c_18 => ?_) (fun c_18 => ?_))
        · rw [if_neg c_18] at hg
          exact zsub (lv' := [(0, .ref (G.2.2.2 t0)), (1, .int x1), (2, .int x2), (3, .int v_14), (4, .int (zb v_15)), (5, .int (zb v_16))]) [3, 4, 5, 2, 1, 0] rfl (b_X12_reads_65 hK ht0 hE ih x1 x2 v_14 (zb v_15) (zb v_16) h hg)
        · rw [if_pos c_18] at hg
          refine z_iload (pc := 46) hK 0 dX12_reads_46 rfl (z_if_ne (pc := 48) hK 65 dX12_reads_48 (by decide) (fun c_19 => ?_) (fun c_19 => ?_))
          · rw [if_neg c_19] at hg
            exact zsub (lv' := [(0, .ref (G.2.2.2 t0)), (1, .int x1), (2, .int x2), (3, .int v_14), (4, .int (zb v_15)), (5, .int (zb v_16))]) [3, 4, 5, 2, 1, 0] rfl (b_X12_reads_65 hK ht0 hE ih x1 x2 v_14 (zb v_15) (zb v_16) h hg)
          · rw [if_pos c_19] at hg
            refine z_aload_n (pc := 51) hK 3 dX12_reads_51 rfl (z_getI (pc := 52) hK f_X12_151_11 ht0 dX12_reads_52 (z_iconst (pc := 55) hK dX12_reads_55 zc_i2 (z_icmp_eq (pc := 56) hK 65 dX12_reads_56 (by decide) (fun c_20 => ?_) (fun c_20 => ?_))))
            · rw [if_pos c_20] at hg
              exact zsub (lv' := [(0, .ref (G.2.2.2 t0)), (1, .int x1), (2, .int x2), (3, .int v_14), (4, .int (zb v_15)), (5, .int (zb v_16))]) [3, 4, 5, 2, 1, 0] rfl (b_X12_reads_65 hK ht0 hE ih x1 x2 v_14 (zb v_15) (zb v_16) h hg)
            · rw [if_neg c_20] at hg
              obtain ⟨v_21, qv_21, hg⟩ := zbind_some hg
              exact z_aload_n (pc := 59) hK 3 dX12_reads_59 rfl (z_iconst (pc := 60) hK dX12_reads_60 zc_i1 (z_callVi (pc := 61) hK [.int 1] (m_X12_fails (zC_D hK) ht0 qv_21) sv_X12_fails q_1493 ht0 rfl [] rfl (Nat.le_of_ble_eq_true rfl) ⟨by decide, by decide⟩ dX12_reads_61 (z_zretE (pc := 64) hK rfl hE hg dX12_reads_64)))
set_option maxRecDepth 100000 in
set_option maxHeartbeats 4000000 in
theorem b_X12_reads {K : zK} {G : zG} (hK : zC K G cX12_reads RX12 6 2 42 (some .boolean)) {h : zH} {t0 : Nat} (ht0 : zT t0 = (11, 0)) {r : Bool × zH} (hE : zE K G (some (.int (zb r.1))) r.2) (hg : g_X12_reads h t0 = some r) : zW K G 6 0 [(0, .ref (G.2.2.2 t0))] [] h := by
  rw [g_X12_reads] at hg
  obtain ⟨c_1, hg⟩ := zgu_some hg
  obtain ⟨h_2, eh_2, hg⟩ := zlet_some hg
  exact z_iconst (pc := 0) hK dX12_reads_0 zc_i0 (z_istore_n (pc := 1) hK (lv' := [(1, .int 0), (0, .ref (G.2.2.2 t0))]) dX12_reads_1 (by decide) rfl (z_iconst (pc := 2) hK dX12_reads_2 zc_i1 (z_istore_n (pc := 3) hK (lv' := [(2, .int 1), (1, .int 0), (0, .ref (G.2.2.2 t0))]) dX12_reads_3 (by decide) rfl (z_aload_n (pc := 4) hK 2 dX12_reads_4 rfl (z_getR (pc := 5) hK f_X12_51_11 ht0 dX12_reads_5 (z_iconst (pc := 8) hK dX12_reads_8 zc_i0 (z_iconst (pc := 9) hK dX12_reads_9 zc_i0 (z_zast (pc := 10) hK (zt_11_24 ht0) c_1 dX12_reads_10 (z_nameH eh_2 (zsub (lv' := [(0, .ref (G.2.2.2 t0)), (1, .int 0), (2, .int 1)]) [2, 1, 0] rfl (b_X12_reads_11 hK ht0 hE zfu 0 1 h_2 hg)))))))))))
theorem m_X12_reads {l : Launch} {G : zG} (hG : zD G) {h : zH} {t0 : Nat} (ht0 : zT t0 = (11, 0)) {r : Bool × zH} (hg : g_X12_reads h t0 = some r) : zM l G yX12_reads cX12_reads 6 (some .boolean) 2 42 [.ref (G.2.2.2 t0)] h (some (.int (zb r.1))) r.2 :=
  zM_of hG pn_X12 (Nat.le_of_ble_eq_true rfl) (fun K _ hK hE => b_X12_reads hK ht0 hE hg)
theorem dX12_opens_0 : decode cX12_opens 0 = .ok (.aload_n 0, 1) := by decide +kernel
theorem dX12_opens_1 : decode cX12_opens 1 = .ok (.getfield 57, 3) := by decide +kernel
theorem dX12_opens_4 : decode cX12_opens 4 = .ok (.iload_n 1, 1) := by decide +kernel
theorem dX12_opens_5 : decode cX12_opens 5 = .ok (.iconst 0, 1) := by decide +kernel
theorem dX12_opens_6 : decode cX12_opens 6 = .ok (.iastore, 1) := by decide +kernel
theorem dX12_opens_7 : decode cX12_opens 7 = .ok (.aload_n 0, 1) := by decide +kernel
theorem dX12_opens_8 : decode cX12_opens 8 = .ok (.getfield 63, 3) := by decide +kernel
theorem dX12_opens_11 : decode cX12_opens 11 = .ok (.iload_n 1, 1) := by decide +kernel
theorem dX12_opens_12 : decode cX12_opens 12 = .ok (.iconst 0, 1) := by decide +kernel
theorem dX12_opens_13 : decode cX12_opens 13 = .ok (.iastore, 1) := by decide +kernel
theorem dX12_opens_14 : decode cX12_opens 14 = .ok (.aload_n 0, 1) := by decide +kernel
theorem dX12_opens_15 : decode cX12_opens 15 = .ok (.getfield 66, 3) := by decide +kernel
theorem dX12_opens_18 : decode cX12_opens 18 = .ok (.iload_n 1, 1) := by decide +kernel
theorem dX12_opens_19 : decode cX12_opens 19 = .ok (.iconst 0, 1) := by decide +kernel
theorem dX12_opens_20 : decode cX12_opens 20 = .ok (.iastore, 1) := by decide +kernel
theorem dX12_opens_21 : decode cX12_opens 21 = .ok (.aload_n 0, 1) := by decide +kernel
theorem dX12_opens_22 : decode cX12_opens 22 = .ok (.getfield 69, 3) := by decide +kernel
theorem dX12_opens_25 : decode cX12_opens 25 = .ok (.iload_n 1, 1) := by decide +kernel
theorem dX12_opens_26 : decode cX12_opens 26 = .ok (.bipush 20, 2) := by decide +kernel
theorem dX12_opens_28 : decode cX12_opens 28 = .ok (.iastore, 1) := by decide +kernel
theorem dX12_opens_29 : decode cX12_opens 29 = .ok (.aload_n 0, 1) := by decide +kernel
theorem dX12_opens_30 : decode cX12_opens 30 = .ok (.getfield 75, 3) := by decide +kernel
theorem dX12_opens_33 : decode cX12_opens 33 = .ok (.iload_n 1, 1) := by decide +kernel
theorem dX12_opens_34 : decode cX12_opens 34 = .ok (.iconst 0, 1) := by decide +kernel
theorem dX12_opens_35 : decode cX12_opens 35 = .ok (.iastore, 1) := by decide +kernel
theorem dX12_opens_36 : decode cX12_opens 36 = .ok (.return_, 1) := by decide +kernel
def g_X12_opens (h : zH) (t0 : Nat) (x1 : Int32) : Option zH := zgu (zin x1 7) <| zlet (zpi h (zR t0 26) (zx x1) 0) fun h_2 => zgu (zin x1 7) <| zlet (zpi h_2 (zR t0 28) (zx x1) 0) fun h_4 => zgu (zin x1 7) <| zlet (zpi h_4 (zR t0 29) (zx x1) 0) fun h_6 => zgu (zin x1 7) <| zlet (zpi h_6 (zR t0 30) (zx x1) 20) fun h_8 => zgu (zin x1 7) <| zlet (zpi h_8 (zR t0 32) (zx x1) 0) fun h_10 => some h_10
set_option maxRecDepth 100000 in
set_option maxHeartbeats 4000000 in
theorem b_X12_opens {K : zK} {G : zG} (hK : zC K G cX12_opens RX12 2 0 0 none) {h : zH} {t0 : Nat} {x1 : Int32} (ht0 : zT t0 = (11, 0)) {r : zH} (hE : zE K G (none) r) (hg : g_X12_opens h t0 x1 = some r) : zW K G 2 0 [(0, .ref (G.2.2.2 t0)), (1, .int x1)] [] h := by
  rw [g_X12_opens] at hg
  obtain ⟨c_1, hg⟩ := zgu_some hg
  obtain ⟨h_2, eh_2, hg⟩ := zlet_some hg
  obtain ⟨c_3, hg⟩ := zgu_some hg
  obtain ⟨h_4, eh_4, hg⟩ := zlet_some hg
  obtain ⟨c_5, hg⟩ := zgu_some hg
  obtain ⟨h_6, eh_6, hg⟩ := zlet_some hg
  obtain ⟨c_7, hg⟩ := zgu_some hg
  obtain ⟨h_8, eh_8, hg⟩ := zlet_some hg
  obtain ⟨c_9, hg⟩ := zgu_some hg
  obtain ⟨h_10, eh_10, hg⟩ := zlet_some hg
  exact z_aload_n (pc := 0) hK 0 dX12_opens_0 rfl (z_getR (pc := 1) hK f_X12_57_11 ht0 dX12_opens_1 (z_iload_n (pc := 4) hK 1 dX12_opens_4 rfl (z_iconst (pc := 5) hK dX12_opens_5 zc_i0 (z_iast (pc := 6) hK (zt_11_26 ht0) c_1 dX12_opens_6 (z_nameH eh_2 (z_aload_n (pc := 7) hK 0 dX12_opens_7 rfl (z_getR (pc := 8) hK f_X12_63_11 ht0 dX12_opens_8 (z_iload_n (pc := 11) hK 1 dX12_opens_11 rfl (z_iconst (pc := 12) hK dX12_opens_12 zc_i0 (z_iast (pc := 13) hK (zt_11_28 ht0) c_3 dX12_opens_13 (z_nameH eh_4 (z_aload_n (pc := 14) hK 0 dX12_opens_14 rfl (z_getR (pc := 15) hK f_X12_66_11 ht0 dX12_opens_15 (z_iload_n (pc := 18) hK 1 dX12_opens_18 rfl (z_iconst (pc := 19) hK dX12_opens_19 zc_i0 (z_iast (pc := 20) hK (zt_11_29 ht0) c_5 dX12_opens_20 (z_nameH eh_6 (z_aload_n (pc := 21) hK 0 dX12_opens_21 rfl (z_getR (pc := 22) hK f_X12_69_11 ht0 dX12_opens_22 (z_iload_n (pc := 25) hK 1 dX12_opens_25 rfl (z_bipush (pc := 26) hK dX12_opens_26 zc_b20 (z_iast (pc := 28) hK (zt_11_30 ht0) c_7 dX12_opens_28 (z_nameH eh_8 (z_aload_n (pc := 29) hK 0 dX12_opens_29 rfl (z_getR (pc := 30) hK f_X12_75_11 ht0 dX12_opens_30 (z_iload_n (pc := 33) hK 1 dX12_opens_33 rfl (z_iconst (pc := 34) hK dX12_opens_34 zc_i0 (z_iast (pc := 35) hK (zt_11_32 ht0) c_9 dX12_opens_35 (z_nameH eh_10 (z_vretE (pc := 36) hK hE hg dX12_opens_36))))))))))))))))))))))))))))))
theorem m_X12_opens {l : Launch} {G : zG} (hG : zD G) {h : zH} {t0 : Nat} {x1 : Int32} (ht0 : zT t0 = (11, 0)) {r : zH} (hg : g_X12_opens h t0 x1 = some r) : zM l G yX12_opens cX12_opens 2 none 0 0 [.ref (G.2.2.2 t0), .int x1] h (none) r :=
  zM_of hG pn_X12 (Nat.le_of_ble_eq_true rfl) (fun K _ hK hE => b_X12_opens hK ht0 hE hg)
theorem dX12_sums_0 : decode cX12_sums 0 = .ok (.aload_n 0, 1) := by decide +kernel
theorem dX12_sums_1 : decode cX12_sums 1 = .ok (.getfield 66, 3) := by decide +kernel
theorem dX12_sums_4 : decode cX12_sums 4 = .ok (.iload_n 1, 1) := by decide +kernel
theorem dX12_sums_5 : decode cX12_sums 5 = .ok (.aload_n 0, 1) := by decide +kernel
theorem dX12_sums_6 : decode cX12_sums 6 = .ok (.getfield 69, 3) := by decide +kernel
theorem dX12_sums_9 : decode cX12_sums 9 = .ok (.iload_n 1, 1) := by decide +kernel
theorem dX12_sums_10 : decode cX12_sums 10 = .ok (.iaload, 1) := by decide +kernel
theorem dX12_sums_11 : decode cX12_sums 11 = .ok (.bipush 21, 2) := by decide +kernel
theorem dX12_sums_13 : decode cX12_sums 13 = .ok (.if_icmp .ne 19, 3) := by decide +kernel
theorem dX12_sums_16 : decode cX12_sums 16 = .ok (.aload_n 0, 1) := by decide +kernel
theorem dX12_sums_17 : decode cX12_sums 17 = .ok (.getfield 66, 3) := by decide +kernel
theorem dX12_sums_20 : decode cX12_sums 20 = .ok (.iload_n 1, 1) := by decide +kernel
theorem dX12_sums_21 : decode cX12_sums 21 = .ok (.iaload, 1) := by decide +kernel
theorem dX12_sums_22 : decode cX12_sums 22 = .ok (.aload_n 0, 1) := by decide +kernel
theorem dX12_sums_23 : decode cX12_sums 23 = .ok (.getfield 72, 3) := by decide +kernel
theorem dX12_sums_26 : decode cX12_sums 26 = .ok (.iload_n 1, 1) := by decide +kernel
theorem dX12_sums_27 : decode cX12_sums 27 = .ok (.iaload, 1) := by decide +kernel
theorem dX12_sums_28 : decode cX12_sums 28 = .ok (.isub, 1) := by decide +kernel
theorem dX12_sums_29 : decode cX12_sums 29 = .ok (.goto 16, 3) := by decide +kernel
theorem dX12_sums_32 : decode cX12_sums 32 = .ok (.aload_n 0, 1) := by decide +kernel
theorem dX12_sums_33 : decode cX12_sums 33 = .ok (.getfield 66, 3) := by decide +kernel
theorem dX12_sums_36 : decode cX12_sums 36 = .ok (.iload_n 1, 1) := by decide +kernel
theorem dX12_sums_37 : decode cX12_sums 37 = .ok (.iaload, 1) := by decide +kernel
theorem dX12_sums_38 : decode cX12_sums 38 = .ok (.aload_n 0, 1) := by decide +kernel
theorem dX12_sums_39 : decode cX12_sums 39 = .ok (.getfield 72, 3) := by decide +kernel
theorem dX12_sums_42 : decode cX12_sums 42 = .ok (.iload_n 1, 1) := by decide +kernel
theorem dX12_sums_43 : decode cX12_sums 43 = .ok (.iaload, 1) := by decide +kernel
theorem dX12_sums_44 : decode cX12_sums 44 = .ok (.iadd, 1) := by decide +kernel
theorem dX12_sums_45 : decode cX12_sums 45 = .ok (.iastore, 1) := by decide +kernel
theorem dX12_sums_46 : decode cX12_sums 46 = .ok (.aload_n 0, 1) := by decide +kernel
theorem dX12_sums_47 : decode cX12_sums 47 = .ok (.getfield 75, 3) := by decide +kernel
theorem dX12_sums_50 : decode cX12_sums 50 = .ok (.iload_n 1, 1) := by decide +kernel
theorem dX12_sums_51 : decode cX12_sums 51 = .ok (.iconst 0, 1) := by decide +kernel
theorem dX12_sums_52 : decode cX12_sums 52 = .ok (.iastore, 1) := by decide +kernel
theorem dX12_sums_53 : decode cX12_sums 53 = .ok (.return_, 1) := by decide +kernel
def g_X12_sums_45 (t0 : Nat)  (x1 : Int32) (s0 : Int32) (s1 : Int32) (h : zH) : Option zH := zgu (zin s1 7) <| zlet (zpi h (zR t0 29) (zx s1) s0) fun h_8 => zgu (zin x1 7) <| zlet (zpi h_8 (zR t0 32) (zx x1) 0) fun h_10 => some h_10
def g_X12_sums (h : zH) (t0 : Nat) (x1 : Int32) : Option zH := zgu (zin x1 7) <| if (h.1 (zR t0 30) (zx x1)) = 21 then (zgu (zin x1 7) <| zgu (zin x1 7) <| g_X12_sums_45 t0 x1 ((h.1 (zR t0 29) (zx x1)) - (h.1 (zR t0 31) (zx x1))) x1 h) else (zgu (zin x1 7) <| zgu (zin x1 7) <| g_X12_sums_45 t0 x1 ((h.1 (zR t0 29) (zx x1)) + (h.1 (zR t0 31) (zx x1))) x1 h)
set_option maxRecDepth 100000 in
set_option maxHeartbeats 4000000 in
theorem b_X12_sums_45 {K : zK} {G : zG} (hK : zC K G cX12_sums RX12 2 0 0 none) {t0 : Nat} (ht0 : zT t0 = (11, 0)) {r : zH} (hE : zE K G (none) r) (x1 : Int32) (s0 : Int32) (s1 : Int32) (h : zH) (hg : g_X12_sums_45 t0 x1 s0 s1 h = some r) : zW K G 2 45 [(0, .ref (G.2.2.2 t0)), (1, .int x1)] [.int s0, .int s1, .ref (G.2.2.2 (zR t0 29))] h := by
  rw [g_X12_sums_45] at hg
  obtain ⟨c_7, hg⟩ := zgu_some hg
  obtain ⟨h_8, eh_8, hg⟩ := zlet_some hg
  obtain ⟨c_9, hg⟩ := zgu_some hg
  obtain ⟨h_10, eh_10, hg⟩ := zlet_some hg
  exact z_iast (pc := 45) hK (zt_11_29 ht0) c_7 dX12_sums_45 (z_nameH eh_8 (z_aload_n (pc := 46) hK 0 dX12_sums_46 rfl (z_getR (pc := 47) hK f_X12_75_11 ht0 dX12_sums_47 (z_iload_n (pc := 50) hK 1 dX12_sums_50 rfl (z_iconst (pc := 51) hK dX12_sums_51 zc_i0 (z_iast (pc := 52) hK (zt_11_32 ht0) c_9 dX12_sums_52 (z_nameH eh_10 (z_vretE (pc := 53) hK hE hg dX12_sums_53))))))))
set_option maxRecDepth 100000 in
set_option maxHeartbeats 4000000 in
theorem b_X12_sums {K : zK} {G : zG} (hK : zC K G cX12_sums RX12 2 0 0 none) {h : zH} {t0 : Nat} {x1 : Int32} (ht0 : zT t0 = (11, 0)) {r : zH} (hE : zE K G (none) r) (hg : g_X12_sums h t0 x1 = some r) : zW K G 2 0 [(0, .ref (G.2.2.2 t0)), (1, .int x1)] [] h := by
  rw [g_X12_sums] at hg
  obtain ⟨c_1, hg⟩ := zgu_some hg
  refine z_aload_n (pc := 0) hK 0 dX12_sums_0 rfl (z_getR (pc := 1) hK f_X12_66_11 ht0 dX12_sums_1 (z_iload_n (pc := 4) hK 1 dX12_sums_4 rfl (z_aload_n (pc := 5) hK 0 dX12_sums_5 rfl (z_getR (pc := 6) hK f_X12_69_11 ht0 dX12_sums_6 (z_iload_n (pc := 9) hK 1 dX12_sums_9 rfl (z_iald (pc := 10) hK (zt_11_30 ht0) c_1 dX12_sums_10 (z_bipush (pc := 11) hK dX12_sums_11 zc_b21 (z_icmp_ne (pc := 13) hK 32 dX12_sums_13 (by decide) (fun c_2 => ?_) (fun c_2 => ?_)))))))))
  · rw [if_neg c_2] at hg
    obtain ⟨c_3, hg⟩ := zgu_some hg
    obtain ⟨c_4, hg⟩ := zgu_some hg
    exact z_aload_n (pc := 32) hK 0 dX12_sums_32 rfl (z_getR (pc := 33) hK f_X12_66_11 ht0 dX12_sums_33 (z_iload_n (pc := 36) hK 1 dX12_sums_36 rfl (z_iald (pc := 37) hK (zt_11_29 ht0) c_3 dX12_sums_37 (z_aload_n (pc := 38) hK 0 dX12_sums_38 rfl (z_getR (pc := 39) hK f_X12_72_11 ht0 dX12_sums_39 (z_iload_n (pc := 42) hK 1 dX12_sums_42 rfl (z_iald (pc := 43) hK (zt_11_31 ht0) c_4 dX12_sums_43 (z_iadd (pc := 44) hK dX12_sums_44 (zsub (lv' := [(0, .ref (G.2.2.2 t0)), (1, .int x1)]) [0, 1] rfl (b_X12_sums_45 hK ht0 hE x1 ((h.1 (zR t0 29) (zx x1)) + (h.1 (zR t0 31) (zx x1))) x1 h hg))))))))))
  · rw [if_pos c_2] at hg
    obtain ⟨c_5, hg⟩ := zgu_some hg
    obtain ⟨c_6, hg⟩ := zgu_some hg
    exact z_aload_n (pc := 16) hK 0 dX12_sums_16 rfl (z_getR (pc := 17) hK f_X12_66_11 ht0 dX12_sums_17 (z_iload_n (pc := 20) hK 1 dX12_sums_20 rfl (z_iald (pc := 21) hK (zt_11_29 ht0) c_5 dX12_sums_21 (z_aload_n (pc := 22) hK 0 dX12_sums_22 rfl (z_getR (pc := 23) hK f_X12_72_11 ht0 dX12_sums_23 (z_iload_n (pc := 26) hK 1 dX12_sums_26 rfl (z_iald (pc := 27) hK (zt_11_31 ht0) c_6 dX12_sums_27 (z_isub (pc := 28) hK dX12_sums_28 (z_goto (pc := 29) hK 45 dX12_sums_29 (by decide) (zsub (lv' := [(0, .ref (G.2.2.2 t0)), (1, .int x1)]) [0, 1] rfl (b_X12_sums_45 hK ht0 hE x1 ((h.1 (zR t0 29) (zx x1)) - (h.1 (zR t0 31) (zx x1))) x1 h hg)))))))))))
theorem m_X12_sums {l : Launch} {G : zG} (hG : zD G) {h : zH} {t0 : Nat} {x1 : Int32} (ht0 : zT t0 = (11, 0)) {r : zH} (hg : g_X12_sums h t0 x1 = some r) : zM l G yX12_sums cX12_sums 2 none 0 0 [.ref (G.2.2.2 t0), .int x1] h (none) r :=
  zM_of hG pn_X12 (Nat.le_of_ble_eq_true rfl) (fun K _ hK hE => b_X12_sums hK ht0 hE hg)
theorem dX12_tests_0 : decode cX12_tests 0 = .ok (.aload_n 0, 1) := by decide +kernel
theorem dX12_tests_1 : decode cX12_tests 1 = .ok (.iload_n 1, 1) := by decide +kernel
theorem dX12_tests_2 : decode cX12_tests 2 = .ok (.invokevirtual 204, 3) := by decide +kernel
theorem dX12_tests_5 : decode cX12_tests 5 = .ok (.aload_n 0, 1) := by decide +kernel
theorem dX12_tests_6 : decode cX12_tests 6 = .ok (.getfield 66, 3) := by decide +kernel
theorem dX12_tests_9 : decode cX12_tests 9 = .ok (.iload_n 1, 1) := by decide +kernel
theorem dX12_tests_10 : decode cX12_tests 10 = .ok (.iaload, 1) := by decide +kernel
theorem dX12_tests_11 : decode cX12_tests 11 = .ok (.istore_n 2, 1) := by decide +kernel
theorem dX12_tests_12 : decode cX12_tests 12 = .ok (.aload_n 0, 1) := by decide +kernel
theorem dX12_tests_13 : decode cX12_tests 13 = .ok (.getfield 63, 3) := by decide +kernel
theorem dX12_tests_16 : decode cX12_tests 16 = .ok (.iload_n 1, 1) := by decide +kernel
theorem dX12_tests_17 : decode cX12_tests 17 = .ok (.iaload, 1) := by decide +kernel
theorem dX12_tests_18 : decode cX12_tests 18 = .ok (.bipush 24, 2) := by decide +kernel
theorem dX12_tests_20 : decode cX12_tests 20 = .ok (.if_icmp .ne 24, 3) := by decide +kernel
theorem dX12_tests_23 : decode cX12_tests 23 = .ok (.aload_n 0, 1) := by decide +kernel
theorem dX12_tests_24 : decode cX12_tests 24 = .ok (.getfield 60, 3) := by decide +kernel
theorem dX12_tests_27 : decode cX12_tests 27 = .ok (.iload_n 1, 1) := by decide +kernel
theorem dX12_tests_28 : decode cX12_tests 28 = .ok (.iaload, 1) := by decide +kernel
theorem dX12_tests_29 : decode cX12_tests 29 = .ok (.aload_n 0, 1) := by decide +kernel
theorem dX12_tests_30 : decode cX12_tests 30 = .ok (.getfield 66, 3) := by decide +kernel
theorem dX12_tests_33 : decode cX12_tests 33 = .ok (.iload_n 1, 1) := by decide +kernel
theorem dX12_tests_34 : decode cX12_tests 34 = .ok (.iaload, 1) := by decide +kernel
theorem dX12_tests_35 : decode cX12_tests 35 = .ok (.if_icmp .ge 7, 3) := by decide +kernel
theorem dX12_tests_38 : decode cX12_tests 38 = .ok (.iconst 1, 1) := by decide +kernel
theorem dX12_tests_39 : decode cX12_tests 39 = .ok (.goto 4, 3) := by decide +kernel
theorem dX12_tests_42 : decode cX12_tests 42 = .ok (.iconst 0, 1) := by decide +kernel
theorem dX12_tests_43 : decode cX12_tests 43 = .ok (.istore_n 2, 1) := by decide +kernel
theorem dX12_tests_44 : decode cX12_tests 44 = .ok (.aload_n 0, 1) := by decide +kernel
theorem dX12_tests_45 : decode cX12_tests 45 = .ok (.getfield 63, 3) := by decide +kernel
theorem dX12_tests_48 : decode cX12_tests 48 = .ok (.iload_n 1, 1) := by decide +kernel
theorem dX12_tests_49 : decode cX12_tests 49 = .ok (.iaload, 1) := by decide +kernel
theorem dX12_tests_50 : decode cX12_tests 50 = .ok (.bipush 25, 2) := by decide +kernel
theorem dX12_tests_52 : decode cX12_tests 52 = .ok (.if_icmp .ne 24, 3) := by decide +kernel
theorem dX12_tests_55 : decode cX12_tests 55 = .ok (.aload_n 0, 1) := by decide +kernel
theorem dX12_tests_56 : decode cX12_tests 56 = .ok (.getfield 60, 3) := by decide +kernel
theorem dX12_tests_59 : decode cX12_tests 59 = .ok (.iload_n 1, 1) := by decide +kernel
theorem dX12_tests_60 : decode cX12_tests 60 = .ok (.iaload, 1) := by decide +kernel
theorem dX12_tests_61 : decode cX12_tests 61 = .ok (.aload_n 0, 1) := by decide +kernel
theorem dX12_tests_62 : decode cX12_tests 62 = .ok (.getfield 66, 3) := by decide +kernel
theorem dX12_tests_65 : decode cX12_tests 65 = .ok (.iload_n 1, 1) := by decide +kernel
theorem dX12_tests_66 : decode cX12_tests 66 = .ok (.iaload, 1) := by decide +kernel
theorem dX12_tests_67 : decode cX12_tests 67 = .ok (.if_icmp .ne 7, 3) := by decide +kernel
theorem dX12_tests_70 : decode cX12_tests 70 = .ok (.iconst 1, 1) := by decide +kernel
theorem dX12_tests_71 : decode cX12_tests 71 = .ok (.goto 4, 3) := by decide +kernel
theorem dX12_tests_74 : decode cX12_tests 74 = .ok (.iconst 0, 1) := by decide +kernel
theorem dX12_tests_75 : decode cX12_tests 75 = .ok (.istore_n 2, 1) := by decide +kernel
theorem dX12_tests_76 : decode cX12_tests 76 = .ok (.aload_n 0, 1) := by decide +kernel
theorem dX12_tests_77 : decode cX12_tests 77 = .ok (.getfield 57, 3) := by decide +kernel
theorem dX12_tests_80 : decode cX12_tests 80 = .ok (.iload_n 1, 1) := by decide +kernel
theorem dX12_tests_81 : decode cX12_tests 81 = .ok (.iaload, 1) := by decide +kernel
theorem dX12_tests_82 : decode cX12_tests 82 = .ok (.bipush 26, 2) := by decide +kernel
theorem dX12_tests_84 : decode cX12_tests 84 = .ok (.if_icmp .ne 22, 3) := by decide +kernel
theorem dX12_tests_87 : decode cX12_tests 87 = .ok (.aload_n 0, 1) := by decide +kernel
theorem dX12_tests_88 : decode cX12_tests 88 = .ok (.getfield 54, 3) := by decide +kernel
theorem dX12_tests_91 : decode cX12_tests 91 = .ok (.iload_n 1, 1) := by decide +kernel
theorem dX12_tests_92 : decode cX12_tests 92 = .ok (.iaload, 1) := by decide +kernel
theorem dX12_tests_93 : decode cX12_tests 93 = .ok (.ifCond .eq 11, 3) := by decide +kernel
theorem dX12_tests_96 : decode cX12_tests 96 = .ok (.iload_n 2, 1) := by decide +kernel
theorem dX12_tests_97 : decode cX12_tests 97 = .ok (.ifCond .eq 7, 3) := by decide +kernel
theorem dX12_tests_100 : decode cX12_tests 100 = .ok (.iconst 1, 1) := by decide +kernel
theorem dX12_tests_101 : decode cX12_tests 101 = .ok (.goto 4, 3) := by decide +kernel
theorem dX12_tests_104 : decode cX12_tests 104 = .ok (.iconst 0, 1) := by decide +kernel
theorem dX12_tests_105 : decode cX12_tests 105 = .ok (.istore_n 2, 1) := by decide +kernel
theorem dX12_tests_106 : decode cX12_tests 106 = .ok (.aload_n 0, 1) := by decide +kernel
theorem dX12_tests_107 : decode cX12_tests 107 = .ok (.getfield 57, 3) := by decide +kernel
theorem dX12_tests_110 : decode cX12_tests 110 = .ok (.iload_n 1, 1) := by decide +kernel
theorem dX12_tests_111 : decode cX12_tests 111 = .ok (.iaload, 1) := by decide +kernel
theorem dX12_tests_112 : decode cX12_tests 112 = .ok (.bipush 27, 2) := by decide +kernel
theorem dX12_tests_114 : decode cX12_tests 114 = .ok (.if_icmp .ne 22, 3) := by decide +kernel
theorem dX12_tests_117 : decode cX12_tests 117 = .ok (.aload_n 0, 1) := by decide +kernel
theorem dX12_tests_118 : decode cX12_tests 118 = .ok (.getfield 54, 3) := by decide +kernel
theorem dX12_tests_121 : decode cX12_tests 121 = .ok (.iload_n 1, 1) := by decide +kernel
theorem dX12_tests_122 : decode cX12_tests 122 = .ok (.iaload, 1) := by decide +kernel
theorem dX12_tests_123 : decode cX12_tests 123 = .ok (.ifCond .ne 7, 3) := by decide +kernel
theorem dX12_tests_126 : decode cX12_tests 126 = .ok (.iload_n 2, 1) := by decide +kernel
theorem dX12_tests_127 : decode cX12_tests 127 = .ok (.ifCond .eq 7, 3) := by decide +kernel
theorem dX12_tests_130 : decode cX12_tests 130 = .ok (.iconst 1, 1) := by decide +kernel
theorem dX12_tests_131 : decode cX12_tests 131 = .ok (.goto 4, 3) := by decide +kernel
theorem dX12_tests_134 : decode cX12_tests 134 = .ok (.iconst 0, 1) := by decide +kernel
theorem dX12_tests_135 : decode cX12_tests 135 = .ok (.istore_n 2, 1) := by decide +kernel
theorem dX12_tests_136 : decode cX12_tests 136 = .ok (.aload_n 0, 1) := by decide +kernel
theorem dX12_tests_137 : decode cX12_tests 137 = .ok (.getfield 54, 3) := by decide +kernel
theorem dX12_tests_140 : decode cX12_tests 140 = .ok (.iload_n 1, 1) := by decide +kernel
theorem dX12_tests_141 : decode cX12_tests 141 = .ok (.iload_n 2, 1) := by decide +kernel
theorem dX12_tests_142 : decode cX12_tests 142 = .ok (.iastore, 1) := by decide +kernel
theorem dX12_tests_143 : decode cX12_tests 143 = .ok (.aload_n 0, 1) := by decide +kernel
theorem dX12_tests_144 : decode cX12_tests 144 = .ok (.getfield 63, 3) := by decide +kernel
theorem dX12_tests_147 : decode cX12_tests 147 = .ok (.iload_n 1, 1) := by decide +kernel
theorem dX12_tests_148 : decode cX12_tests 148 = .ok (.iconst 0, 1) := by decide +kernel
theorem dX12_tests_149 : decode cX12_tests 149 = .ok (.iastore, 1) := by decide +kernel
theorem dX12_tests_150 : decode cX12_tests 150 = .ok (.aload_n 0, 1) := by decide +kernel
theorem dX12_tests_151 : decode cX12_tests 151 = .ok (.getfield 66, 3) := by decide +kernel
theorem dX12_tests_154 : decode cX12_tests 154 = .ok (.iload_n 1, 1) := by decide +kernel
theorem dX12_tests_155 : decode cX12_tests 155 = .ok (.iconst 0, 1) := by decide +kernel
theorem dX12_tests_156 : decode cX12_tests 156 = .ok (.iastore, 1) := by decide +kernel
theorem dX12_tests_157 : decode cX12_tests 157 = .ok (.aload_n 0, 1) := by decide +kernel
theorem dX12_tests_158 : decode cX12_tests 158 = .ok (.getfield 69, 3) := by decide +kernel
theorem dX12_tests_161 : decode cX12_tests 161 = .ok (.iload_n 1, 1) := by decide +kernel
theorem dX12_tests_162 : decode cX12_tests 162 = .ok (.bipush 20, 2) := by decide +kernel
theorem dX12_tests_164 : decode cX12_tests 164 = .ok (.iastore, 1) := by decide +kernel
theorem dX12_tests_165 : decode cX12_tests 165 = .ok (.return_, 1) := by decide +kernel
def g_X12_tests_136 (t0 : Nat)  (x1 : Int32) (x2 : Int32) (h : zH) : Option zH := zgu (zin x1 7) <| zlet (zpi h (zR t0 25) (zx x1) x2) fun h_25 => zgu (zin x1 7) <| zlet (zpi h_25 (zR t0 28) (zx x1) 0) fun h_27 => zgu (zin x1 7) <| zlet (zpi h_27 (zR t0 29) (zx x1) 0) fun h_29 => zgu (zin x1 7) <| zlet (zpi h_29 (zR t0 30) (zx x1) 20) fun h_31 => some h_31
def g_X12_tests_135 (t0 : Nat)  (x1 : Int32) (s0 : Int32) (h : zH) : Option zH := g_X12_tests_136 t0 x1 s0 h
def g_X12_tests_130 (t0 : Nat)  (x1 : Int32) (h : zH) : Option zH := g_X12_tests_135 t0 x1 1 h
def g_X12_tests_106 (t0 : Nat)  (x1 : Int32) (x2 : Int32) (h : zH) : Option zH := zgu (zin x1 7) <| if (h.1 (zR t0 26) (zx x1)) = 27 then (zgu (zin x1 7) <| if (h.1 (zR t0 25) (zx x1)) = 0 then (if x2 = 0 then (g_X12_tests_135 t0 x1 0 h) else (g_X12_tests_130 t0 x1 h)) else (g_X12_tests_130 t0 x1 h)) else (g_X12_tests_136 t0 x1 x2 h)
def g_X12_tests_105 (t0 : Nat)  (x1 : Int32) (s0 : Int32) (h : zH) : Option zH := g_X12_tests_106 t0 x1 s0 h
def g_X12_tests_104 (t0 : Nat)  (x1 : Int32) (h : zH) : Option zH := g_X12_tests_105 t0 x1 0 h
def g_X12_tests_76 (t0 : Nat)  (x1 : Int32) (x2 : Int32) (h : zH) : Option zH := zgu (zin x1 7) <| if (h.1 (zR t0 26) (zx x1)) = 26 then (zgu (zin x1 7) <| if (h.1 (zR t0 25) (zx x1)) = 0 then (g_X12_tests_104 t0 x1 h) else (if x2 = 0 then (g_X12_tests_104 t0 x1 h) else (g_X12_tests_105 t0 x1 1 h))) else (g_X12_tests_106 t0 x1 x2 h)
def g_X12_tests_75 (t0 : Nat)  (x1 : Int32) (s0 : Int32) (h : zH) : Option zH := g_X12_tests_76 t0 x1 s0 h
def g_X12_tests_44 (t0 : Nat)  (x1 : Int32) (x2 : Int32) (h : zH) : Option zH := zgu (zin x1 7) <| if (h.1 (zR t0 28) (zx x1)) = 25 then (zgu (zin x1 7) <| zgu (zin x1 7) <| if (h.1 (zR t0 27) (zx x1)) = (h.1 (zR t0 29) (zx x1)) then (g_X12_tests_75 t0 x1 1 h) else (g_X12_tests_75 t0 x1 0 h)) else (g_X12_tests_76 t0 x1 x2 h)
def g_X12_tests_43 (t0 : Nat)  (x1 : Int32) (s0 : Int32) (h : zH) : Option zH := g_X12_tests_44 t0 x1 s0 h
def g_X12_tests (h : zH) (t0 : Nat) (x1 : Int32) : Option zH := (g_X12_sums h t0 x1).bind fun v_1 => zgu (zin x1 7) <| zlet (v_1.1 (zR t0 29) (zx x1)) fun v_3 => zgu (zin x1 7) <| if (v_1.1 (zR t0 28) (zx x1)) = 24 then (zgu (zin x1 7) <| zgu (zin x1 7) <| if (v_1.1 (zR t0 29) (zx x1)) ≤ (v_1.1 (zR t0 27) (zx x1)) then (g_X12_tests_43 t0 x1 0 v_1) else (g_X12_tests_43 t0 x1 1 v_1)) else (g_X12_tests_44 t0 x1 v_3 v_1)
set_option maxRecDepth 100000 in
set_option maxHeartbeats 4000000 in
theorem b_X12_tests_136 {K : zK} {G : zG} (hK : zC K G cX12_tests RX12 3 1 21 none) {t0 : Nat} (ht0 : zT t0 = (11, 0)) {r : zH} (hE : zE K G (none) r) (x1 : Int32) (x2 : Int32) (h : zH) (hg : g_X12_tests_136 t0 x1 x2 h = some r) : zW K G 3 136 [(0, .ref (G.2.2.2 t0)), (1, .int x1), (2, .int x2)] [] h := by
  rw [g_X12_tests_136] at hg
  obtain ⟨c_24, hg⟩ := zgu_some hg
  obtain ⟨h_25, eh_25, hg⟩ := zlet_some hg
  obtain ⟨c_26, hg⟩ := zgu_some hg
  obtain ⟨h_27, eh_27, hg⟩ := zlet_some hg
  obtain ⟨c_28, hg⟩ := zgu_some hg
  obtain ⟨h_29, eh_29, hg⟩ := zlet_some hg
  obtain ⟨c_30, hg⟩ := zgu_some hg
  obtain ⟨h_31, eh_31, hg⟩ := zlet_some hg
  exact z_aload_n (pc := 136) hK 0 dX12_tests_136 rfl (z_getR (pc := 137) hK f_X12_54_11 ht0 dX12_tests_137 (z_iload_n (pc := 140) hK 1 dX12_tests_140 rfl (z_iload_n (pc := 141) hK 2 dX12_tests_141 rfl (z_iast (pc := 142) hK (zt_11_25 ht0) c_24 dX12_tests_142 (z_nameH eh_25 (z_aload_n (pc := 143) hK 0 dX12_tests_143 rfl (z_getR (pc := 144) hK f_X12_63_11 ht0 dX12_tests_144 (z_iload_n (pc := 147) hK 1 dX12_tests_147 rfl (z_iconst (pc := 148) hK dX12_tests_148 zc_i0 (z_iast (pc := 149) hK (zt_11_28 ht0) c_26 dX12_tests_149 (z_nameH eh_27 (z_aload_n (pc := 150) hK 0 dX12_tests_150 rfl (z_getR (pc := 151) hK f_X12_66_11 ht0 dX12_tests_151 (z_iload_n (pc := 154) hK 1 dX12_tests_154 rfl (z_iconst (pc := 155) hK dX12_tests_155 zc_i0 (z_iast (pc := 156) hK (zt_11_29 ht0) c_28 dX12_tests_156 (z_nameH eh_29 (z_aload_n (pc := 157) hK 0 dX12_tests_157 rfl (z_getR (pc := 158) hK f_X12_69_11 ht0 dX12_tests_158 (z_iload_n (pc := 161) hK 1 dX12_tests_161 rfl (z_bipush (pc := 162) hK dX12_tests_162 zc_b20 (z_iast (pc := 164) hK (zt_11_30 ht0) c_30 dX12_tests_164 (z_nameH eh_31 (z_vretE (pc := 165) hK hE hg dX12_tests_165))))))))))))))))))))))))
set_option maxRecDepth 100000 in
set_option maxHeartbeats 4000000 in
theorem b_X12_tests_135 {K : zK} {G : zG} (hK : zC K G cX12_tests RX12 3 1 21 none) {t0 : Nat} (ht0 : zT t0 = (11, 0)) {r : zH} (hE : zE K G (none) r) (x1 : Int32) (s0 : Int32) (h : zH) (hg : g_X12_tests_135 t0 x1 s0 h = some r) : zW K G 3 135 [(0, .ref (G.2.2.2 t0)), (1, .int x1)] [.int s0] h := by
  rw [g_X12_tests_135] at hg
  exact z_istore_n (pc := 135) hK (lv' := [(2, .int s0), (0, .ref (G.2.2.2 t0)), (1, .int x1)]) dX12_tests_135 (by decide) rfl (zsub (lv' := [(0, .ref (G.2.2.2 t0)), (1, .int x1), (2, .int s0)]) [1, 2, 0] rfl (b_X12_tests_136 hK ht0 hE x1 s0 h hg))
set_option maxRecDepth 100000 in
set_option maxHeartbeats 4000000 in
theorem b_X12_tests_130 {K : zK} {G : zG} (hK : zC K G cX12_tests RX12 3 1 21 none) {t0 : Nat} (ht0 : zT t0 = (11, 0)) {r : zH} (hE : zE K G (none) r) (x1 : Int32) (h : zH) (hg : g_X12_tests_130 t0 x1 h = some r) : zW K G 3 130 [(0, .ref (G.2.2.2 t0)), (1, .int x1)] [] h := by
  rw [g_X12_tests_130] at hg
  exact z_iconst (pc := 130) hK dX12_tests_130 zc_i1 (z_goto (pc := 131) hK 135 dX12_tests_131 (by decide) (zsub (lv' := [(0, .ref (G.2.2.2 t0)), (1, .int x1)]) [0, 1] rfl (b_X12_tests_135 hK ht0 hE x1 1 h hg)))
set_option maxRecDepth 100000 in
set_option maxHeartbeats 4000000 in
theorem b_X12_tests_106 {K : zK} {G : zG} (hK : zC K G cX12_tests RX12 3 1 21 none) {t0 : Nat} (ht0 : zT t0 = (11, 0)) {r : zH} (hE : zE K G (none) r) (x1 : Int32) (x2 : Int32) (h : zH) (hg : g_X12_tests_106 t0 x1 x2 h = some r) : zW K G 3 106 [(0, .ref (G.2.2.2 t0)), (1, .int x1), (2, .int x2)] [] h := by
  rw [g_X12_tests_106] at hg
  obtain ⟨c_19, hg⟩ := zgu_some hg
  refine z_aload_n (pc := 106) hK 0 dX12_tests_106 rfl (z_getR (pc := 107) hK f_X12_57_11 ht0 dX12_tests_107 (z_iload_n (pc := 110) hK 1 dX12_tests_110 rfl (z_iald (pc := 111) hK (zt_11_26 ht0) c_19 dX12_tests_111 (z_bipush (pc := 112) hK dX12_tests_112 zc_b27 (z_icmp_ne (pc := 114) hK 136 dX12_tests_114 (by decide) (fun c_20 => ?_) (fun c_20 => ?_))))))
  · rw [if_neg c_20] at hg
    exact zsub (lv' := [(0, .ref (G.2.2.2 t0)), (1, .int x1), (2, .int x2)]) [0, 1, 2] rfl (b_X12_tests_136 hK ht0 hE x1 x2 h hg)
  · rw [if_pos c_20] at hg
    obtain ⟨c_21, hg⟩ := zgu_some hg
    refine z_aload_n (pc := 117) hK 0 dX12_tests_117 rfl (z_getR (pc := 118) hK f_X12_54_11 ht0 dX12_tests_118 (z_iload_n (pc := 121) hK 1 dX12_tests_121 rfl (z_iald (pc := 122) hK (zt_11_25 ht0) c_21 dX12_tests_122 (z_if_ne (pc := 123) hK 130 dX12_tests_123 (by decide) (fun c_22 => ?_) (fun c_22 => ?_)))))
    · rw [if_neg c_22] at hg
      exact zsub (lv' := [(0, .ref (G.2.2.2 t0)), (1, .int x1)]) [0, 1] rfl (b_X12_tests_130 hK ht0 hE x1 h hg)
    · rw [if_pos c_22] at hg
      refine z_iload_n (pc := 126) hK 2 dX12_tests_126 rfl (z_if_eq (pc := 127) hK 134 dX12_tests_127 (by decide) (fun c_23 => ?_) (fun c_23 => ?_))
      · rw [if_pos c_23] at hg
        exact z_iconst (pc := 134) hK dX12_tests_134 zc_i0 (zsub (lv' := [(0, .ref (G.2.2.2 t0)), (1, .int x1)]) [0, 1] rfl (b_X12_tests_135 hK ht0 hE x1 0 h hg))
      · rw [if_neg c_23] at hg
        exact zsub (lv' := [(0, .ref (G.2.2.2 t0)), (1, .int x1)]) [0, 1] rfl (b_X12_tests_130 hK ht0 hE x1 h hg)
set_option maxRecDepth 100000 in
set_option maxHeartbeats 4000000 in
theorem b_X12_tests_105 {K : zK} {G : zG} (hK : zC K G cX12_tests RX12 3 1 21 none) {t0 : Nat} (ht0 : zT t0 = (11, 0)) {r : zH} (hE : zE K G (none) r) (x1 : Int32) (s0 : Int32) (h : zH) (hg : g_X12_tests_105 t0 x1 s0 h = some r) : zW K G 3 105 [(0, .ref (G.2.2.2 t0)), (1, .int x1)] [.int s0] h := by
  rw [g_X12_tests_105] at hg
  exact z_istore_n (pc := 105) hK (lv' := [(2, .int s0), (0, .ref (G.2.2.2 t0)), (1, .int x1)]) dX12_tests_105 (by decide) rfl (zsub (lv' := [(0, .ref (G.2.2.2 t0)), (1, .int x1), (2, .int s0)]) [1, 2, 0] rfl (b_X12_tests_106 hK ht0 hE x1 s0 h hg))
set_option maxRecDepth 100000 in
set_option maxHeartbeats 4000000 in
theorem b_X12_tests_104 {K : zK} {G : zG} (hK : zC K G cX12_tests RX12 3 1 21 none) {t0 : Nat} (ht0 : zT t0 = (11, 0)) {r : zH} (hE : zE K G (none) r) (x1 : Int32) (h : zH) (hg : g_X12_tests_104 t0 x1 h = some r) : zW K G 3 104 [(0, .ref (G.2.2.2 t0)), (1, .int x1)] [] h := by
  rw [g_X12_tests_104] at hg
  exact z_iconst (pc := 104) hK dX12_tests_104 zc_i0 (zsub (lv' := [(0, .ref (G.2.2.2 t0)), (1, .int x1)]) [0, 1] rfl (b_X12_tests_105 hK ht0 hE x1 0 h hg))
set_option maxRecDepth 100000 in
set_option maxHeartbeats 4000000 in
theorem b_X12_tests_76 {K : zK} {G : zG} (hK : zC K G cX12_tests RX12 3 1 21 none) {t0 : Nat} (ht0 : zT t0 = (11, 0)) {r : zH} (hE : zE K G (none) r) (x1 : Int32) (x2 : Int32) (h : zH) (hg : g_X12_tests_76 t0 x1 x2 h = some r) : zW K G 3 76 [(0, .ref (G.2.2.2 t0)), (1, .int x1), (2, .int x2)] [] h := by
  rw [g_X12_tests_76] at hg
  obtain ⟨c_14, hg⟩ := zgu_some hg
  refine z_aload_n (pc := 76) hK 0 dX12_tests_76 rfl (z_getR (pc := 77) hK f_X12_57_11 ht0 dX12_tests_77 (z_iload_n (pc := 80) hK 1 dX12_tests_80 rfl (z_iald (pc := 81) hK (zt_11_26 ht0) c_14 dX12_tests_81 (z_bipush (pc := 82) hK dX12_tests_82 zc_b26 (z_icmp_ne (pc := 84) hK 106 dX12_tests_84 (by decide) (fun c_15 => ?_) (fun c_15 => ?_))))))
  · rw [if_neg c_15] at hg
    exact zsub (lv' := [(0, .ref (G.2.2.2 t0)), (1, .int x1), (2, .int x2)]) [0, 1, 2] rfl (b_X12_tests_106 hK ht0 hE x1 x2 h hg)
  · rw [if_pos c_15] at hg
    obtain ⟨c_16, hg⟩ := zgu_some hg
    refine z_aload_n (pc := 87) hK 0 dX12_tests_87 rfl (z_getR (pc := 88) hK f_X12_54_11 ht0 dX12_tests_88 (z_iload_n (pc := 91) hK 1 dX12_tests_91 rfl (z_iald (pc := 92) hK (zt_11_25 ht0) c_16 dX12_tests_92 (z_if_eq (pc := 93) hK 104 dX12_tests_93 (by decide) (fun c_17 => ?_) (fun c_17 => ?_)))))
    · rw [if_pos c_17] at hg
      exact zsub (lv' := [(0, .ref (G.2.2.2 t0)), (1, .int x1)]) [0, 1] rfl (b_X12_tests_104 hK ht0 hE x1 h hg)
    · rw [if_neg c_17] at hg
      refine z_iload_n (pc := 96) hK 2 dX12_tests_96 rfl (z_if_eq (pc := 97) hK 104 dX12_tests_97 (by decide) (fun c_18 => ?_) (fun c_18 => ?_))
      · rw [if_pos c_18] at hg
        exact zsub (lv' := [(0, .ref (G.2.2.2 t0)), (1, .int x1)]) [0, 1] rfl (b_X12_tests_104 hK ht0 hE x1 h hg)
      · rw [if_neg c_18] at hg
        exact z_iconst (pc := 100) hK dX12_tests_100 zc_i1 (z_goto (pc := 101) hK 105 dX12_tests_101 (by decide) (zsub (lv' := [(0, .ref (G.2.2.2 t0)), (1, .int x1)]) [0, 1] rfl (b_X12_tests_105 hK ht0 hE x1 1 h hg)))
set_option maxRecDepth 100000 in
set_option maxHeartbeats 4000000 in
theorem b_X12_tests_75 {K : zK} {G : zG} (hK : zC K G cX12_tests RX12 3 1 21 none) {t0 : Nat} (ht0 : zT t0 = (11, 0)) {r : zH} (hE : zE K G (none) r) (x1 : Int32) (s0 : Int32) (h : zH) (hg : g_X12_tests_75 t0 x1 s0 h = some r) : zW K G 3 75 [(0, .ref (G.2.2.2 t0)), (1, .int x1)] [.int s0] h := by
  rw [g_X12_tests_75] at hg
  exact z_istore_n (pc := 75) hK (lv' := [(2, .int s0), (0, .ref (G.2.2.2 t0)), (1, .int x1)]) dX12_tests_75 (by decide) rfl (zsub (lv' := [(0, .ref (G.2.2.2 t0)), (1, .int x1), (2, .int s0)]) [1, 2, 0] rfl (b_X12_tests_76 hK ht0 hE x1 s0 h hg))
set_option maxRecDepth 100000 in
set_option maxHeartbeats 4000000 in
theorem b_X12_tests_44 {K : zK} {G : zG} (hK : zC K G cX12_tests RX12 3 1 21 none) {t0 : Nat} (ht0 : zT t0 = (11, 0)) {r : zH} (hE : zE K G (none) r) (x1 : Int32) (x2 : Int32) (h : zH) (hg : g_X12_tests_44 t0 x1 x2 h = some r) : zW K G 3 44 [(0, .ref (G.2.2.2 t0)), (1, .int x1), (2, .int x2)] [] h := by
  rw [g_X12_tests_44] at hg
  obtain ⟨c_9, hg⟩ := zgu_some hg
  refine z_aload_n (pc := 44) hK 0 dX12_tests_44 rfl (z_getR (pc := 45) hK f_X12_63_11 ht0 dX12_tests_45 (z_iload_n (pc := 48) hK 1 dX12_tests_48 rfl (z_iald (pc := 49) hK (zt_11_28 ht0) c_9 dX12_tests_49 (z_bipush (pc := 50) hK dX12_tests_50 zc_b25 (z_icmp_ne (pc := 52) hK 76 dX12_tests_52 (by decide) (fun c_10 => ?_) (fun c_10 => ?_))))))
  · rw [if_neg c_10] at hg
    exact zsub (lv' := [(0, .ref (G.2.2.2 t0)), (1, .int x1), (2, .int x2)]) [0, 1, 2] rfl (b_X12_tests_76 hK ht0 hE x1 x2 h hg)
  · rw [if_pos c_10] at hg
    obtain ⟨c_11, hg⟩ := zgu_some hg
    obtain ⟨c_12, hg⟩ := zgu_some hg
    refine z_aload_n (pc := 55) hK 0 dX12_tests_55 rfl (z_getR (pc := 56) hK f_X12_60_11 ht0 dX12_tests_56 (z_iload_n (pc := 59) hK 1 dX12_tests_59 rfl (z_iald (pc := 60) hK (zt_11_27 ht0) c_11 dX12_tests_60 (z_aload_n (pc := 61) hK 0 dX12_tests_61 rfl (z_getR (pc := 62) hK f_X12_66_11 ht0 dX12_tests_62 (z_iload_n (pc := 65) hK 1 dX12_tests_65 rfl (z_iald (pc := 66) hK (zt_11_29 ht0) c_12 dX12_tests_66 (z_icmp_ne (pc := 67) hK 74 dX12_tests_67 (by decide) (fun c_13 => ?_) (fun c_13 => ?_)))))))))
    · rw [if_neg c_13] at hg
      exact z_iconst (pc := 74) hK dX12_tests_74 zc_i0 (zsub (lv' := [(0, .ref (G.2.2.2 t0)), (1, .int x1)]) [0, 1] rfl (b_X12_tests_75 hK ht0 hE x1 0 h hg))
    · rw [if_pos c_13] at hg
      exact z_iconst (pc := 70) hK dX12_tests_70 zc_i1 (z_goto (pc := 71) hK 75 dX12_tests_71 (by decide) (zsub (lv' := [(0, .ref (G.2.2.2 t0)), (1, .int x1)]) [0, 1] rfl (b_X12_tests_75 hK ht0 hE x1 1 h hg)))
set_option maxRecDepth 100000 in
set_option maxHeartbeats 4000000 in
theorem b_X12_tests_43 {K : zK} {G : zG} (hK : zC K G cX12_tests RX12 3 1 21 none) {t0 : Nat} (ht0 : zT t0 = (11, 0)) {r : zH} (hE : zE K G (none) r) (x1 : Int32) (s0 : Int32) (h : zH) (hg : g_X12_tests_43 t0 x1 s0 h = some r) : zW K G 3 43 [(0, .ref (G.2.2.2 t0)), (1, .int x1)] [.int s0] h := by
  rw [g_X12_tests_43] at hg
  exact z_istore_n (pc := 43) hK (lv' := [(2, .int s0), (0, .ref (G.2.2.2 t0)), (1, .int x1)]) dX12_tests_43 (by decide) rfl (zsub (lv' := [(0, .ref (G.2.2.2 t0)), (1, .int x1), (2, .int s0)]) [1, 2, 0] rfl (b_X12_tests_44 hK ht0 hE x1 s0 h hg))
set_option maxRecDepth 100000 in
set_option maxHeartbeats 4000000 in
theorem b_X12_tests {K : zK} {G : zG} (hK : zC K G cX12_tests RX12 3 1 21 none) {h : zH} {t0 : Nat} {x1 : Int32} (ht0 : zT t0 = (11, 0)) {r : zH} (hE : zE K G (none) r) (hg : g_X12_tests h t0 x1 = some r) : zW K G 3 0 [(0, .ref (G.2.2.2 t0)), (1, .int x1)] [] h := by
  rw [g_X12_tests] at hg
  obtain ⟨v_1, qv_1, hg⟩ := zbind_some hg
  obtain ⟨c_2, hg⟩ := zgu_some hg
  obtain ⟨v_3, ev_3, hg⟩ := zlet_some hg
  obtain ⟨c_4, hg⟩ := zgu_some hg
  refine z_aload_n (pc := 0) hK 0 dX12_tests_0 rfl (z_iload_n (pc := 1) hK 1 dX12_tests_1 rfl (z_callVv (pc := 2) hK [.int x1] (m_X12_sums (zC_D hK) ht0 qv_1) sv_X12_sums q_1695 ht0 rfl [] rfl (Nat.le_of_ble_eq_true rfl) ⟨by decide, by decide⟩ dX12_tests_2 (z_aload_n (pc := 5) hK 0 dX12_tests_5 rfl (z_getR (pc := 6) hK f_X12_66_11 ht0 dX12_tests_6 (z_iload_n (pc := 9) hK 1 dX12_tests_9 rfl (z_iald (pc := 10) hK (zt_11_29 ht0) c_2 dX12_tests_10 (z_nameI ev_3 (z_istore_n (pc := 11) hK (lv' := [(2, .int v_3), (0, .ref (G.2.2.2 t0)), (1, .int x1)]) dX12_tests_11 (by decide) rfl (z_aload_n (pc := 12) hK 1 dX12_tests_12 rfl (z_getR (pc := 13) hK f_X12_63_11 ht0 dX12_tests_13 (z_iload_n (pc := 16) hK 2 dX12_tests_16 rfl (z_iald (pc := 17) hK (zt_11_28 ht0) c_4 dX12_tests_17 (z_bipush (pc := 18) hK dX12_tests_18 zc_b24 (z_icmp_ne (pc := 20) hK 44 dX12_tests_20 (by decide) (fun c_5 => ?_) (fun c_5 => ?_)))))))))))))))
  · rw [if_neg c_5] at hg
    exact zsub (lv' := [(0, .ref (G.2.2.2 t0)), (1, .int x1), (2, .int v_3)]) [1, 2, 0] rfl (b_X12_tests_44 hK ht0 hE x1 v_3 v_1 hg)
  · rw [if_pos c_5] at hg
    obtain ⟨c_6, hg⟩ := zgu_some hg
    obtain ⟨c_7, hg⟩ := zgu_some hg
    refine z_aload_n (pc := 23) hK 1 dX12_tests_23 rfl (z_getR (pc := 24) hK f_X12_60_11 ht0 dX12_tests_24 (z_iload_n (pc := 27) hK 2 dX12_tests_27 rfl (z_iald (pc := 28) hK (zt_11_27 ht0) c_6 dX12_tests_28 (z_aload_n (pc := 29) hK 1 dX12_tests_29 rfl (z_getR (pc := 30) hK f_X12_66_11 ht0 dX12_tests_30 (z_iload_n (pc := 33) hK 2 dX12_tests_33 rfl (z_iald (pc := 34) hK (zt_11_29 ht0) c_7 dX12_tests_34 (z_icmp_ge (pc := 35) hK 42 dX12_tests_35 (by decide) (fun c_8 => ?_) (fun c_8 => ?_)))))))))
    · rw [if_pos c_8] at hg
      exact z_iconst (pc := 42) hK dX12_tests_42 zc_i0 (zsub (lv' := [(0, .ref (G.2.2.2 t0)), (1, .int x1)]) [1, 2] rfl (b_X12_tests_43 hK ht0 hE x1 0 v_1 hg))
    · rw [if_neg c_8] at hg
      exact z_iconst (pc := 38) hK dX12_tests_38 zc_i1 (z_goto (pc := 39) hK 43 dX12_tests_39 (by decide) (zsub (lv' := [(0, .ref (G.2.2.2 t0)), (1, .int x1)]) [1, 2] rfl (b_X12_tests_43 hK ht0 hE x1 1 v_1 hg)))
theorem m_X12_tests {l : Launch} {G : zG} (hG : zD G) {h : zH} {t0 : Nat} {x1 : Int32} (ht0 : zT t0 = (11, 0)) {r : zH} (hg : g_X12_tests h t0 x1 = some r) : zM l G yX12_tests cX12_tests 3 none 1 21 [.ref (G.2.2.2 t0), .int x1] h (none) r :=
  zM_of hG pn_X12 (Nat.le_of_ble_eq_true rfl) (fun K _ hK hE => b_X12_tests hK ht0 hE hg)
