theorem dX12_readsPerson_0 : decode cX12_readsPerson 0 = .ok (.bipush 7, 2) := by decide +kernel
theorem dX12_readsPerson_2 : decode cX12_readsPerson 2 = .ok (.aload_n 0, 1) := by decide +kernel
theorem dX12_readsPerson_3 : decode cX12_readsPerson 3 = .ok (.getfield 13, 3) := by decide +kernel
theorem dX12_readsPerson_6 : decode cX12_readsPerson 6 = .ok (.iconst 4, 1) := by decide +kernel
theorem dX12_readsPerson_7 : decode cX12_readsPerson 7 = .ok (.iaload, 1) := by decide +kernel
theorem dX12_readsPerson_8 : decode cX12_readsPerson 8 = .ok (.iadd, 1) := by decide +kernel
theorem dX12_readsPerson_9 : decode cX12_readsPerson 9 = .ok (.istore_n 1, 1) := by decide +kernel
theorem dX12_readsPerson_10 : decode cX12_readsPerson 10 = .ok (.iload_n 1, 1) := by decide +kernel
theorem dX12_readsPerson_11 : decode cX12_readsPerson 11 = .ok (.bipush 14, 2) := by decide +kernel
theorem dX12_readsPerson_13 : decode cX12_readsPerson 13 = .ok (.if_icmp .ne 9, 3) := by decide +kernel
theorem dX12_readsPerson_16 : decode cX12_readsPerson 16 = .ok (.aload_n 0, 1) := by decide +kernel
theorem dX12_readsPerson_17 : decode cX12_readsPerson 17 = .ok (.iconst 5, 1) := by decide +kernel
theorem dX12_readsPerson_18 : decode cX12_readsPerson 18 = .ok (.invokevirtual 190, 3) := by decide +kernel
theorem dX12_readsPerson_21 : decode cX12_readsPerson 21 = .ok (.ireturn, 1) := by decide +kernel
theorem dX12_readsPerson_22 : decode cX12_readsPerson 22 = .ok (.aload_n 0, 1) := by decide +kernel
theorem dX12_readsPerson_23 : decode cX12_readsPerson 23 = .ok (.invokevirtual 197, 3) := by decide +kernel
theorem dX12_readsPerson_26 : decode cX12_readsPerson 26 = .ok (.aload_n 0, 1) := by decide +kernel
theorem dX12_readsPerson_27 : decode cX12_readsPerson 27 = .ok (.invokevirtual 270, 3) := by decide +kernel
theorem dX12_readsPerson_30 : decode cX12_readsPerson 30 = .ok (.ifCond .eq 9, 3) := by decide +kernel
theorem dX12_readsPerson_33 : decode cX12_readsPerson 33 = .ok (.aload_n 0, 1) := by decide +kernel
theorem dX12_readsPerson_34 : decode cX12_readsPerson 34 = .ok (.iconst 1, 1) := by decide +kernel
theorem dX12_readsPerson_35 : decode cX12_readsPerson 35 = .ok (.invokevirtual 190, 3) := by decide +kernel
theorem dX12_readsPerson_38 : decode cX12_readsPerson 38 = .ok (.ireturn, 1) := by decide +kernel
theorem dX12_readsPerson_39 : decode cX12_readsPerson 39 = .ok (.aload_n 0, 1) := by decide +kernel
theorem dX12_readsPerson_40 : decode cX12_readsPerson 40 = .ok (.iconst 1, 1) := by decide +kernel
theorem dX12_readsPerson_41 : decode cX12_readsPerson 41 = .ok (.invokevirtual 274, 3) := by decide +kernel
theorem dX12_readsPerson_44 : decode cX12_readsPerson 44 = .ok (.ifCond .lt 9, 3) := by decide +kernel
theorem dX12_readsPerson_47 : decode cX12_readsPerson 47 = .ok (.aload_n 0, 1) := by decide +kernel
theorem dX12_readsPerson_48 : decode cX12_readsPerson 48 = .ok (.iconst 3, 1) := by decide +kernel
theorem dX12_readsPerson_49 : decode cX12_readsPerson 49 = .ok (.invokevirtual 190, 3) := by decide +kernel
theorem dX12_readsPerson_52 : decode cX12_readsPerson 52 = .ok (.ireturn, 1) := by decide +kernel
theorem dX12_readsPerson_53 : decode cX12_readsPerson 53 = .ok (.aload_n 0, 1) := by decide +kernel
theorem dX12_readsPerson_54 : decode cX12_readsPerson 54 = .ok (.getfield 144, 3) := by decide +kernel
theorem dX12_readsPerson_57 : decode cX12_readsPerson 57 = .ok (.lstore_n 2, 1) := by decide +kernel
theorem dX12_readsPerson_58 : decode cX12_readsPerson 58 = .ok (.aload_n 0, 1) := by decide +kernel
theorem dX12_readsPerson_59 : decode cX12_readsPerson 59 = .ok (.invokevirtual 197, 3) := by decide +kernel
theorem dX12_readsPerson_62 : decode cX12_readsPerson 62 = .ok (.aload_n 0, 1) := by decide +kernel
theorem dX12_readsPerson_63 : decode cX12_readsPerson 63 = .ok (.getfield 20, 3) := by decide +kernel
theorem dX12_readsPerson_66 : decode cX12_readsPerson 66 = .ok (.iload_n 1, 1) := by decide +kernel
theorem dX12_readsPerson_67 : decode cX12_readsPerson 67 = .ok (.aload_n 0, 1) := by decide +kernel
theorem dX12_readsPerson_68 : decode cX12_readsPerson 68 = .ok (.ldc2_w 251, 3) := by decide +kernel
theorem dX12_readsPerson_71 : decode cX12_readsPerson 71 = .ok (.invokevirtual 182, 3) := by decide +kernel
theorem dX12_readsPerson_74 : decode cX12_readsPerson 74 = .ok (.ifCond .eq 7, 3) := by decide +kernel
theorem dX12_readsPerson_77 : decode cX12_readsPerson 77 = .ok (.iconst 0, 1) := by decide +kernel
theorem dX12_readsPerson_78 : decode cX12_readsPerson 78 = .ok (.goto 46, 3) := by decide +kernel
theorem dX12_readsPerson_81 : decode cX12_readsPerson 81 = .ok (.aload_n 0, 1) := by decide +kernel
theorem dX12_readsPerson_82 : decode cX12_readsPerson 82 = .ok (.ldc2_w 253, 3) := by decide +kernel
theorem dX12_readsPerson_85 : decode cX12_readsPerson 85 = .ok (.invokevirtual 182, 3) := by decide +kernel
theorem dX12_readsPerson_88 : decode cX12_readsPerson 88 = .ok (.ifCond .eq 7, 3) := by decide +kernel
theorem dX12_readsPerson_91 : decode cX12_readsPerson 91 = .ok (.iconst 1, 1) := by decide +kernel
theorem dX12_readsPerson_92 : decode cX12_readsPerson 92 = .ok (.goto 32, 3) := by decide +kernel
theorem dX12_readsPerson_95 : decode cX12_readsPerson 95 = .ok (.aload_n 0, 1) := by decide +kernel
theorem dX12_readsPerson_96 : decode cX12_readsPerson 96 = .ok (.ldc2_w 255, 3) := by decide +kernel
theorem dX12_readsPerson_99 : decode cX12_readsPerson 99 = .ok (.invokevirtual 182, 3) := by decide +kernel
theorem dX12_readsPerson_102 : decode cX12_readsPerson 102 = .ok (.ifCond .eq 7, 3) := by decide +kernel
theorem dX12_readsPerson_105 : decode cX12_readsPerson 105 = .ok (.iconst 2, 1) := by decide +kernel
theorem dX12_readsPerson_106 : decode cX12_readsPerson 106 = .ok (.goto 18, 3) := by decide +kernel
theorem dX12_readsPerson_109 : decode cX12_readsPerson 109 = .ok (.aload_n 0, 1) := by decide +kernel
theorem dX12_readsPerson_110 : decode cX12_readsPerson 110 = .ok (.ldc2_w 257, 3) := by decide +kernel
theorem dX12_readsPerson_113 : decode cX12_readsPerson 113 = .ok (.invokevirtual 182, 3) := by decide +kernel
theorem dX12_readsPerson_116 : decode cX12_readsPerson 116 = .ok (.ifCond .eq 7, 3) := by decide +kernel
theorem dX12_readsPerson_119 : decode cX12_readsPerson 119 = .ok (.iconst 3, 1) := by decide +kernel
theorem dX12_readsPerson_120 : decode cX12_readsPerson 120 = .ok (.goto 4, 3) := by decide +kernel
theorem dX12_readsPerson_123 : decode cX12_readsPerson 123 = .ok (.iconst (-1), 1) := by decide +kernel
theorem dX12_readsPerson_124 : decode cX12_readsPerson 124 = .ok (.iastore, 1) := by decide +kernel
theorem dX12_readsPerson_125 : decode cX12_readsPerson 125 = .ok (.aload_n 0, 1) := by decide +kernel
theorem dX12_readsPerson_126 : decode cX12_readsPerson 126 = .ok (.getfield 20, 3) := by decide +kernel
theorem dX12_readsPerson_129 : decode cX12_readsPerson 129 = .ok (.iload_n 1, 1) := by decide +kernel
theorem dX12_readsPerson_130 : decode cX12_readsPerson 130 = .ok (.iaload, 1) := by decide +kernel
theorem dX12_readsPerson_131 : decode cX12_readsPerson 131 = .ok (.ifCond .ge 9, 3) := by decide +kernel
theorem dX12_readsPerson_134 : decode cX12_readsPerson 134 = .ok (.aload_n 0, 1) := by decide +kernel
theorem dX12_readsPerson_135 : decode cX12_readsPerson 135 = .ok (.iconst 1, 1) := by decide +kernel
theorem dX12_readsPerson_136 : decode cX12_readsPerson 136 = .ok (.invokevirtual 190, 3) := by decide +kernel
theorem dX12_readsPerson_139 : decode cX12_readsPerson 139 = .ok (.ireturn, 1) := by decide +kernel
theorem dX12_readsPerson_140 : decode cX12_readsPerson 140 = .ok (.aload_n 0, 1) := by decide +kernel
theorem dX12_readsPerson_141 : decode cX12_readsPerson 141 = .ok (.invokevirtual 197, 3) := by decide +kernel
theorem dX12_readsPerson_144 : decode cX12_readsPerson 144 = .ok (.aload_n 0, 1) := by decide +kernel
theorem dX12_readsPerson_145 : decode cX12_readsPerson 145 = .ok (.ldc2_w 215, 3) := by decide +kernel
theorem dX12_readsPerson_148 : decode cX12_readsPerson 148 = .ok (.iconst 0, 1) := by decide +kernel
theorem dX12_readsPerson_149 : decode cX12_readsPerson 149 = .ok (.bipush 99, 2) := by decide +kernel
theorem dX12_readsPerson_151 : decode cX12_readsPerson 151 = .ok (.invokevirtual 283, 3) := by decide +kernel
theorem dX12_readsPerson_154 : decode cX12_readsPerson 154 = .ok (.ifCond .ne 5, 3) := by decide +kernel
theorem dX12_readsPerson_157 : decode cX12_readsPerson 157 = .ok (.iconst 0, 1) := by decide +kernel
theorem dX12_readsPerson_158 : decode cX12_readsPerson 158 = .ok (.ireturn, 1) := by decide +kernel
theorem dX12_readsPerson_159 : decode cX12_readsPerson 159 = .ok (.aload_n 0, 1) := by decide +kernel
theorem dX12_readsPerson_160 : decode cX12_readsPerson 160 = .ok (.getfield 23, 3) := by decide +kernel
theorem dX12_readsPerson_163 : decode cX12_readsPerson 163 = .ok (.iload_n 1, 1) := by decide +kernel
theorem dX12_readsPerson_164 : decode cX12_readsPerson 164 = .ok (.aload_n 0, 1) := by decide +kernel
theorem dX12_readsPerson_165 : decode cX12_readsPerson 165 = .ok (.getfield 263, 3) := by decide +kernel
theorem dX12_readsPerson_168 : decode cX12_readsPerson 168 = .ok (.iastore, 1) := by decide +kernel
theorem dX12_readsPerson_169 : decode cX12_readsPerson 169 = .ok (.aload_n 0, 1) := by decide +kernel
theorem dX12_readsPerson_170 : decode cX12_readsPerson 170 = .ok (.ldc2_w 217, 3) := by decide +kernel
theorem dX12_readsPerson_173 : decode cX12_readsPerson 173 = .ok (.iconst 0, 1) := by decide +kernel
theorem dX12_readsPerson_174 : decode cX12_readsPerson 174 = .ok (.bipush 9, 2) := by decide +kernel
theorem dX12_readsPerson_176 : decode cX12_readsPerson 176 = .ok (.invokevirtual 283, 3) := by decide +kernel
theorem dX12_readsPerson_179 : decode cX12_readsPerson 179 = .ok (.ifCond .ne 5, 3) := by decide +kernel
theorem dX12_readsPerson_182 : decode cX12_readsPerson 182 = .ok (.iconst 0, 1) := by decide +kernel
theorem dX12_readsPerson_183 : decode cX12_readsPerson 183 = .ok (.ireturn, 1) := by decide +kernel
theorem dX12_readsPerson_184 : decode cX12_readsPerson 184 = .ok (.aload_n 0, 1) := by decide +kernel
theorem dX12_readsPerson_185 : decode cX12_readsPerson 185 = .ok (.getfield 26, 3) := by decide +kernel
theorem dX12_readsPerson_188 : decode cX12_readsPerson 188 = .ok (.iload_n 1, 1) := by decide +kernel
theorem dX12_readsPerson_189 : decode cX12_readsPerson 189 = .ok (.aload_n 0, 1) := by decide +kernel
theorem dX12_readsPerson_190 : decode cX12_readsPerson 190 = .ok (.getfield 263, 3) := by decide +kernel
theorem dX12_readsPerson_193 : decode cX12_readsPerson 193 = .ok (.iastore, 1) := by decide +kernel
theorem dX12_readsPerson_194 : decode cX12_readsPerson 194 = .ok (.aload_n 0, 1) := by decide +kernel
theorem dX12_readsPerson_195 : decode cX12_readsPerson 195 = .ok (.getfield 29, 3) := by decide +kernel
theorem dX12_readsPerson_198 : decode cX12_readsPerson 198 = .ok (.iload_n 1, 1) := by decide +kernel
theorem dX12_readsPerson_199 : decode cX12_readsPerson 199 = .ok (.iconst (-1), 1) := by decide +kernel
theorem dX12_readsPerson_200 : decode cX12_readsPerson 200 = .ok (.iastore, 1) := by decide +kernel
theorem dX12_readsPerson_201 : decode cX12_readsPerson 201 = .ok (.aload_n 0, 1) := by decide +kernel
theorem dX12_readsPerson_202 : decode cX12_readsPerson 202 = .ok (.getfield 16, 3) := by decide +kernel
theorem dX12_readsPerson_205 : decode cX12_readsPerson 205 = .ok (.iload_n 1, 1) := by decide +kernel
theorem dX12_readsPerson_206 : decode cX12_readsPerson 206 = .ok (.lload_n 2, 1) := by decide +kernel
theorem dX12_readsPerson_207 : decode cX12_readsPerson 207 = .ok (.lastore, 1) := by decide +kernel
theorem dX12_readsPerson_208 : decode cX12_readsPerson 208 = .ok (.aload_n 0, 1) := by decide +kernel
theorem dX12_readsPerson_209 : decode cX12_readsPerson 209 = .ok (.getfield 13, 3) := by decide +kernel
theorem dX12_readsPerson_212 : decode cX12_readsPerson 212 = .ok (.iconst 4, 1) := by decide +kernel
theorem dX12_readsPerson_213 : decode cX12_readsPerson 213 = .ok (.dup2, 1) := by decide +kernel
theorem dX12_readsPerson_214 : decode cX12_readsPerson 214 = .ok (.iaload, 1) := by decide +kernel
theorem dX12_readsPerson_215 : decode cX12_readsPerson 215 = .ok (.iconst 1, 1) := by decide +kernel
theorem dX12_readsPerson_216 : decode cX12_readsPerson 216 = .ok (.iadd, 1) := by decide +kernel
theorem dX12_readsPerson_217 : decode cX12_readsPerson 217 = .ok (.iastore, 1) := by decide +kernel
theorem dX12_readsPerson_218 : decode cX12_readsPerson 218 = .ok (.aload_n 0, 1) := by decide +kernel
theorem dX12_readsPerson_219 : decode cX12_readsPerson 219 = .ok (.invokevirtual 287, 3) := by decide +kernel
theorem dX12_readsPerson_222 : decode cX12_readsPerson 222 = .ok (.ireturn, 1) := by decide +kernel
def g_X12_readsPerson_124 (t0 : Nat)  (x1 : Int32) (x2 : Int64) (s0 : Int32) (s1 : Int32) (h : zH) : Option (Bool × zH) := zgu (zin s1 14) <| zlet (zpi h (zR t0 12) (zx s1) s0) fun h_22 => zgu (zin x1 14) <| if 0 ≤ (h_22.1 (zR t0 12) (zx x1)) then ((g_X12_nextToken h_22 t0).bind fun v_25 => (g_X12_needsBoth v_25 t0 923 0 99).bind fun v_26 => if (zb v_26.1) = 0 then (some (false, v_26.2)) else (zgu (zin x1 14) <| zlet (zpi v_26.2 (zR t0 13) (zx x1) (v_26.2.1 t0 35)) fun h_29 => (g_X12_needsBoth h_29 t0 109240 0 9).bind fun v_30 => if (zb v_30.1) = 0 then (some (false, v_30.2)) else (zgu (zin x1 14) <| zlet (zpi v_30.2 (zR t0 14) (zx x1) (v_30.2.1 t0 35)) fun h_33 => zgu (zin x1 14) <| zlet (zpi h_33 (zR t0 15) (zx x1) (-1)) fun h_35 => zgu (zin x1 14) <| zlet (zpl h_35 (zR t0 11) (zx x1) x2) fun h_37 => zgu (zin 4 8) <| zgu (zin 4 8) <| zlet (zpi h_37 (zR t0 10) (zx 4) ((h_37.1 (zR t0 10) (zx 4)) + 1)) fun h_40 => (g_X12_closes h_40 t0).bind fun v_41 => some (v_41.1, v_41.2)))) else ((g_X12_fails h_22 t0 1).bind fun v_42 => some (v_42.1, v_42.2))
def g_X12_readsPerson (h : zH) (t0 : Nat) : Option (Bool × zH) := zgu (zin 4 8) <| zlet (7 + (h.1 (zR t0 10) (zx 4))) fun v_2 => if v_2 = 14 then ((g_X12_fails h t0 5).bind fun v_20 => some (v_20.1, v_20.2)) else ((g_X12_nextToken h t0).bind fun v_4 => (g_X12_isKept v_4 t0).bind fun v_5 => if (zb v_5) = 0 then ((g_X12_named v_4 t0 1).bind fun v_7 => if v_7 < 0 then ((g_X12_nextToken v_4 t0).bind fun v_9 => (g_X12_isWord v_9 t0 8740238).bind fun v_10 => if (zb v_10) = 0 then ((g_X12_isWord v_9 t0 10124021).bind fun v_12 => if (zb v_12) = 0 then ((g_X12_isWord v_9 t0 6257).bind fun v_14 => if (zb v_14) = 0 then ((g_X12_isWord v_9 t0 117812495).bind fun v_16 => if (zb v_16) = 0 then (g_X12_readsPerson_124 t0 v_2 (v_4.2 t0 7) (-1) v_2 v_9) else (g_X12_readsPerson_124 t0 v_2 (v_4.2 t0 7) 3 v_2 v_9)) else (g_X12_readsPerson_124 t0 v_2 (v_4.2 t0 7) 2 v_2 v_9)) else (g_X12_readsPerson_124 t0 v_2 (v_4.2 t0 7) 1 v_2 v_9)) else (g_X12_readsPerson_124 t0 v_2 (v_4.2 t0 7) 0 v_2 v_9)) else ((g_X12_fails v_4 t0 3).bind fun v_18 => some (v_18.1, v_18.2))) else ((g_X12_fails v_4 t0 1).bind fun v_19 => some (v_19.1, v_19.2)))
set_option maxRecDepth 100000 in
set_option maxHeartbeats 4000000 in
theorem b_X12_readsPerson_124 {K : zK} {G : zG} (hK : zC K G cX12_readsPerson RX12 4 4 88 (some .boolean)) {t0 : Nat} (ht0 : zT t0 = (11, 0)) {r : Bool × zH} (hE : zE K G (some (.int (zb r.1))) r.2) (x1 : Int32) (x2 : Int64) (s0 : Int32) (s1 : Int32) (h : zH) (hg : g_X12_readsPerson_124 t0 x1 x2 s0 s1 h = some r) : zW K G 4 124 [(0, .ref (G.2.2.2 t0)), (1, .int x1), (2, .long x2)] [.int s0, .int s1, .ref (G.2.2.2 (zR t0 12))] h := by
  rw [g_X12_readsPerson_124] at hg
  obtain ⟨c_21, hg⟩ := zgu_some hg
  obtain ⟨h_22, eh_22, hg⟩ := zlet_some hg
  obtain ⟨c_23, hg⟩ := zgu_some hg
  refine z_iast (pc := 124) hK (zt_11_12 ht0) c_21 dX12_readsPerson_124 (z_nameH eh_22 (z_aload_n (pc := 125) hK 0 dX12_readsPerson_125 rfl (z_getR (pc := 126) hK f_X12_20_11 ht0 dX12_readsPerson_126 (z_iload_n (pc := 129) hK 1 dX12_readsPerson_129 rfl (z_iald (pc := 130) hK (zt_11_12 ht0) c_23 dX12_readsPerson_130 (z_if_ge (pc := 131) hK 140 dX12_readsPerson_131 (by decide) (fun c_24 => ?_) (fun c_24 => ?_)))))))
  · rw [if_pos c_24] at hg
    obtain ⟨v_25, qv_25, hg⟩ := zbind_some hg
    obtain ⟨v_26, qv_26, hg⟩ := zbind_some hg
    refine z_aload_n (pc := 140) hK 0 dX12_readsPerson_140 rfl (z_callVv (pc := 141) hK [] (m_X12_nextToken (zC_D hK) ht0 qv_25) sv_X12_nextToken q_1474 ht0 rfl [] rfl (Nat.le_of_ble_eq_true rfl) ⟨by decide, by decide⟩ dX12_readsPerson_141 (z_aload_n (pc := 144) hK 0 dX12_readsPerson_144 rfl (z_ldc2 (pc := 145) hK q_1501 dX12_readsPerson_145 (z_iconst (pc := 148) hK dX12_readsPerson_148 zc_i0 (z_bipush (pc := 149) hK dX12_readsPerson_149 zc_b99 (z_callVi (pc := 151) hK [.long 923, .int 0, .int 99] (m_X12_needsBoth (zC_D hK) ht0 qv_26) sv_X12_needsBoth q_1530 ht0 rfl [] rfl (Nat.le_of_ble_eq_true rfl) ⟨by decide, by decide⟩ dX12_readsPerson_151 (z_if_ne (pc := 154) hK 159 dX12_readsPerson_154 (by decide) (fun c_27 => ?_) (fun c_27 => ?_))))))))
    · rw [if_neg c_27] at hg
      obtain ⟨c_28, hg⟩ := zgu_some hg
      obtain ⟨h_29, eh_29, hg⟩ := zlet_some hg
      obtain ⟨v_30, qv_30, hg⟩ := zbind_some hg
      refine z_aload_n (pc := 159) hK 0 dX12_readsPerson_159 rfl (z_getR (pc := 160) hK f_X12_23_11 ht0 dX12_readsPerson_160 (z_iload_n (pc := 163) hK 1 dX12_readsPerson_163 rfl (z_aload_n (pc := 164) hK 0 dX12_readsPerson_164 rfl (z_getI (pc := 165) hK f_X12_263_11 ht0 dX12_readsPerson_165 (z_iast (pc := 168) hK (zt_11_13 ht0) c_28 dX12_readsPerson_168 (z_nameH eh_29 (z_aload_n (pc := 169) hK 0 dX12_readsPerson_169 rfl (z_ldc2 (pc := 170) hK q_1502 dX12_readsPerson_170 (z_iconst (pc := 173) hK dX12_readsPerson_173 zc_i0 (z_bipush (pc := 174) hK dX12_readsPerson_174 zc_b9 (z_callVi (pc := 176) hK [.long 109240, .int 0, .int 9] (m_X12_needsBoth (zC_D hK) ht0 qv_30) sv_X12_needsBoth q_1530 ht0 rfl [] rfl (Nat.le_of_ble_eq_true rfl) ⟨by decide, by decide⟩ dX12_readsPerson_176 (z_if_ne (pc := 179) hK 184 dX12_readsPerson_179 (by decide) (fun c_31 => ?_) (fun c_31 => ?_)))))))))))))
      · rw [if_neg c_31] at hg
        obtain ⟨c_32, hg⟩ := zgu_some hg
        obtain ⟨h_33, eh_33, hg⟩ := zlet_some hg
        obtain ⟨c_34, hg⟩ := zgu_some hg
        obtain ⟨h_35, eh_35, hg⟩ := zlet_some hg
        obtain ⟨c_36, hg⟩ := zgu_some hg
        obtain ⟨h_37, eh_37, hg⟩ := zlet_some hg
        obtain ⟨c_38, hg⟩ := zgu_some hg
        obtain ⟨c_39, hg⟩ := zgu_some hg
        obtain ⟨h_40, eh_40, hg⟩ := zlet_some hg
        obtain ⟨v_41, qv_41, hg⟩ := zbind_some hg
        exact z_aload_n (pc := 184) hK 0 dX12_readsPerson_184 rfl (z_getR (pc := 185) hK f_X12_26_11 ht0 dX12_readsPerson_185 (z_iload_n (pc := 188) hK 1 dX12_readsPerson_188 rfl (z_aload_n (pc := 189) hK 0 dX12_readsPerson_189 rfl (z_getI (pc := 190) hK f_X12_263_11 ht0 dX12_readsPerson_190 (z_iast (pc := 193) hK (zt_11_14 ht0) c_32 dX12_readsPerson_193 (z_nameH eh_33 (z_aload_n (pc := 194) hK 0 dX12_readsPerson_194 rfl (z_getR (pc := 195) hK f_X12_29_11 ht0 dX12_readsPerson_195 (z_iload_n (pc := 198) hK 1 dX12_readsPerson_198 rfl (z_iconst (pc := 199) hK dX12_readsPerson_199 zc_im1 (z_iast (pc := 200) hK (zt_11_15 ht0) c_34 dX12_readsPerson_200 (z_nameH eh_35 (z_aload_n (pc := 201) hK 0 dX12_readsPerson_201 rfl (z_getR (pc := 202) hK f_X12_16_11 ht0 dX12_readsPerson_202 (z_iload_n (pc := 205) hK 1 dX12_readsPerson_205 rfl (z_lload_n (pc := 206) hK 2 dX12_readsPerson_206 rfl (z_last (pc := 207) hK (zt_11_11 ht0) c_36 dX12_readsPerson_207 (z_nameH eh_37 (z_aload_n (pc := 208) hK 0 dX12_readsPerson_208 rfl (z_getR (pc := 209) hK f_X12_13_11 ht0 dX12_readsPerson_209 (z_iconst (pc := 212) hK dX12_readsPerson_212 zc_i4 (z_dup2 (pc := 213) hK dX12_readsPerson_213 rfl rfl (z_iald (pc := 214) hK (zt_11_10 ht0) c_38 dX12_readsPerson_214 (z_iconst (pc := 215) hK dX12_readsPerson_215 zc_i1 (z_iadd (pc := 216) hK dX12_readsPerson_216 (z_iast (pc := 217) hK (zt_11_10 ht0) c_39 dX12_readsPerson_217 (z_nameH eh_40 (z_aload_n (pc := 218) hK 0 dX12_readsPerson_218 rfl (z_callVi (pc := 219) hK [] (m_X12_closes (zC_D hK) ht0 qv_41) sv_X12_closes q_1541 ht0 rfl [] rfl (Nat.le_of_ble_eq_true rfl) ⟨by decide, by decide⟩ dX12_readsPerson_219 (z_zretE (pc := 222) hK rfl hE hg dX12_readsPerson_222))))))))))))))))))))))))))))))
      · rw [if_pos c_31] at hg
        exact z_iconst (pc := 182) hK dX12_readsPerson_182 zc_i0 (z_zretE (pc := 183) hK rfl hE hg dX12_readsPerson_183)
    · rw [if_pos c_27] at hg
      exact z_iconst (pc := 157) hK dX12_readsPerson_157 zc_i0 (z_zretE (pc := 158) hK rfl hE hg dX12_readsPerson_158)
  · rw [if_neg c_24] at hg
    obtain ⟨v_42, qv_42, hg⟩ := zbind_some hg
    exact z_aload_n (pc := 134) hK 0 dX12_readsPerson_134 rfl (z_iconst (pc := 135) hK dX12_readsPerson_135 zc_i1 (z_callVi (pc := 136) hK [.int 1] (m_X12_fails (zC_D hK) ht0 qv_42) sv_X12_fails q_1493 ht0 rfl [] rfl (Nat.le_of_ble_eq_true rfl) ⟨by decide, by decide⟩ dX12_readsPerson_136 (z_zretE (pc := 139) hK rfl hE hg dX12_readsPerson_139)))
set_option maxRecDepth 100000 in
set_option maxHeartbeats 4000000 in
theorem b_X12_readsPerson {K : zK} {G : zG} (hK : zC K G cX12_readsPerson RX12 4 4 88 (some .boolean)) {h : zH} {t0 : Nat} (ht0 : zT t0 = (11, 0)) {r : Bool × zH} (hE : zE K G (some (.int (zb r.1))) r.2) (hg : g_X12_readsPerson h t0 = some r) : zW K G 4 0 [(0, .ref (G.2.2.2 t0))] [] h := by
  rw [g_X12_readsPerson] at hg
  obtain ⟨c_1, hg⟩ := zgu_some hg
  obtain ⟨v_2, ev_2, hg⟩ := zlet_some hg
  refine z_bipush (pc := 0) hK dX12_readsPerson_0 zc_b7 (z_aload_n (pc := 2) hK 0 dX12_readsPerson_2 rfl (z_getR (pc := 3) hK f_X12_13_11 ht0 dX12_readsPerson_3 (z_iconst (pc := 6) hK dX12_readsPerson_6 zc_i4 (z_iald (pc := 7) hK (zt_11_10 ht0) c_1 dX12_readsPerson_7 (z_iadd (pc := 8) hK dX12_readsPerson_8 (z_nameI ev_2 (z_istore_n (pc := 9) hK (lv' := [(1, .int v_2), (0, .ref (G.2.2.2 t0))]) dX12_readsPerson_9 (by decide) rfl (z_iload_n (pc := 10) hK 0 dX12_readsPerson_10 rfl (z_bipush (pc := 11) hK dX12_readsPerson_11 zc_b14 (z_icmp_ne (pc := 13) hK 22 dX12_readsPerson_13 (by decide) (fun c_3 => ?_) (fun c_3 => ?_)))))))))))
  · rw [if_neg c_3] at hg
    obtain ⟨v_4, qv_4, hg⟩ := zbind_some hg
    obtain ⟨v_5, qv_5, hg⟩ := zbind_some hg
    refine z_aload_n (pc := 22) hK 1 dX12_readsPerson_22 rfl (z_callVv (pc := 23) hK [] (m_X12_nextToken (zC_D hK) ht0 qv_4) sv_X12_nextToken q_1474 ht0 rfl [] rfl (Nat.le_of_ble_eq_true rfl) ⟨by decide, by decide⟩ dX12_readsPerson_23 (z_aload_n (pc := 26) hK 1 dX12_readsPerson_26 rfl (z_callVi (pc := 27) hK [] (m_X12_isKept (zC_D hK) ht0 qv_5) sv_X12_isKept q_1497 ht0 rfl [] rfl (Nat.le_of_ble_eq_true rfl) ⟨by decide, by decide⟩ dX12_readsPerson_27 (z_if_eq (pc := 30) hK 39 dX12_readsPerson_30 (by decide) (fun c_6 => ?_) (fun c_6 => ?_)))))
    · rw [if_pos c_6] at hg
      obtain ⟨v_7, qv_7, hg⟩ := zbind_some hg
      refine z_aload_n (pc := 39) hK 1 dX12_readsPerson_39 rfl (z_iconst (pc := 40) hK dX12_readsPerson_40 zc_i1 (z_callVi (pc := 41) hK [.int 1] (m_X12_named (zC_D hK) ht0 qv_7) sv_X12_named q_1526 ht0 rfl [] rfl (Nat.le_of_ble_eq_true rfl) ⟨by decide, by decide⟩ dX12_readsPerson_41 (z_if_lt (pc := 44) hK 53 dX12_readsPerson_44 (by decide) (fun c_8 => ?_) (fun c_8 => ?_))))
      · rw [if_pos c_8] at hg
        obtain ⟨v_9, qv_9, hg⟩ := zbind_some hg
        obtain ⟨v_10, qv_10, hg⟩ := zbind_some hg
        refine z_aload_n (pc := 53) hK 1 dX12_readsPerson_53 rfl (z_getL (pc := 54) hK f_X12_144_11 ht0 dX12_readsPerson_54 (z_lstore_n (pc := 57) hK (lv' := [(2, .long (v_4.2 t0 7)), (1, .int v_2), (0, .ref (G.2.2.2 t0))]) dX12_readsPerson_57 (by decide) rfl (z_aload_n (pc := 58) hK 2 dX12_readsPerson_58 rfl (z_callVv (pc := 59) hK [] (m_X12_nextToken (zC_D hK) ht0 qv_9) sv_X12_nextToken q_1474 ht0 rfl [] rfl (Nat.le_of_ble_eq_true rfl) ⟨by decide, by decide⟩ dX12_readsPerson_59 (z_aload_n (pc := 62) hK 2 dX12_readsPerson_62 rfl (z_getR (pc := 63) hK f_X12_20_11 ht0 dX12_readsPerson_63 (z_iload_n (pc := 66) hK 1 dX12_readsPerson_66 rfl (z_aload_n (pc := 67) hK 2 dX12_readsPerson_67 rfl (z_ldc2 (pc := 68) hK q_1519 dX12_readsPerson_68 (z_callVi (pc := 71) hK [.long 8740238] (m_X12_isWord (zC_D hK) ht0 qv_10) sv_X12_isWord q_1485 ht0 rfl [.int v_2, .ref (G.2.2.2 (zR t0 12))] rfl (Nat.le_of_ble_eq_true rfl) ⟨by decide, by decide⟩ dX12_readsPerson_71 (z_if_eq (pc := 74) hK 81 dX12_readsPerson_74 (by decide) (fun c_11 => ?_) (fun c_11 => ?_))))))))))))
        · rw [if_pos c_11] at hg
          obtain ⟨v_12, qv_12, hg⟩ := zbind_some hg
          refine z_aload_n (pc := 81) hK 2 dX12_readsPerson_81 rfl (z_ldc2 (pc := 82) hK q_1520 dX12_readsPerson_82 (z_callVi (pc := 85) hK [.long 10124021] (m_X12_isWord (zC_D hK) ht0 qv_12) sv_X12_isWord q_1485 ht0 rfl [.int v_2, .ref (G.2.2.2 (zR t0 12))] rfl (Nat.le_of_ble_eq_true rfl) ⟨by decide, by decide⟩ dX12_readsPerson_85 (z_if_eq (pc := 88) hK 95 dX12_readsPerson_88 (by decide) (fun c_13 => ?_) (fun c_13 => ?_))))
          · rw [if_pos c_13] at hg
            obtain ⟨v_14, qv_14, hg⟩ := zbind_some hg
            refine z_aload_n (pc := 95) hK 2 dX12_readsPerson_95 rfl (z_ldc2 (pc := 96) hK q_1521 dX12_readsPerson_96 (z_callVi (pc := 99) hK [.long 6257] (m_X12_isWord (zC_D hK) ht0 qv_14) sv_X12_isWord q_1485 ht0 rfl [.int v_2, .ref (G.2.2.2 (zR t0 12))] rfl (Nat.le_of_ble_eq_true rfl) ⟨by decide, by decide⟩ dX12_readsPerson_99 (z_if_eq (pc := 102) hK 109 dX12_readsPerson_102 (by decide) (fun c_15 => ?_) (fun c_15 => ?_))))
            · rw [if_pos c_15] at hg
              obtain ⟨v_16, qv_16, hg⟩ := zbind_some hg
              refine z_aload_n (pc := 109) hK 2 dX12_readsPerson_109 rfl (z_ldc2 (pc := 110) hK q_1522 dX12_readsPerson_110 (z_callVi (pc := 113) hK [.long 117812495] (m_X12_isWord (zC_D hK) ht0 qv_16) sv_X12_isWord q_1485 ht0 rfl [.int v_2, .ref (G.2.2.2 (zR t0 12))] rfl (Nat.le_of_ble_eq_true rfl) ⟨by decide, by decide⟩ dX12_readsPerson_113 (z_if_eq (pc := 116) hK 123 dX12_readsPerson_116 (by decide) (fun c_17 => ?_) (fun c_17 => ?_))))
              · rw [if_pos c_17] at hg
                exact z_iconst (pc := 123) hK dX12_readsPerson_123 zc_im1 (zsub (lv' := [(0, .ref (G.2.2.2 t0)), (1, .int v_2), (2, .long (v_4.2 t0 7))]) [2, 1, 0] rfl (b_X12_readsPerson_124 hK ht0 hE v_2 (v_4.2 t0 7) (-1) v_2 v_9 hg))
              · rw [if_neg c_17] at hg
                exact z_iconst (pc := 119) hK dX12_readsPerson_119 zc_i3 (z_goto (pc := 120) hK 124 dX12_readsPerson_120 (by decide) (zsub (lv' := [(0, .ref (G.2.2.2 t0)), (1, .int v_2), (2, .long (v_4.2 t0 7))]) [2, 1, 0] rfl (b_X12_readsPerson_124 hK ht0 hE v_2 (v_4.2 t0 7) 3 v_2 v_9 hg)))
            · rw [if_neg c_15] at hg
              exact z_iconst (pc := 105) hK dX12_readsPerson_105 zc_i2 (z_goto (pc := 106) hK 124 dX12_readsPerson_106 (by decide) (zsub (lv' := [(0, .ref (G.2.2.2 t0)), (1, .int v_2), (2, .long (v_4.2 t0 7))]) [2, 1, 0] rfl (b_X12_readsPerson_124 hK ht0 hE v_2 (v_4.2 t0 7) 2 v_2 v_9 hg)))
          · rw [if_neg c_13] at hg
            exact z_iconst (pc := 91) hK dX12_readsPerson_91 zc_i1 (z_goto (pc := 92) hK 124 dX12_readsPerson_92 (by decide) (zsub (lv' := [(0, .ref (G.2.2.2 t0)), (1, .int v_2), (2, .long (v_4.2 t0 7))]) [2, 1, 0] rfl (b_X12_readsPerson_124 hK ht0 hE v_2 (v_4.2 t0 7) 1 v_2 v_9 hg)))
        · rw [if_neg c_11] at hg
          exact z_iconst (pc := 77) hK dX12_readsPerson_77 zc_i0 (z_goto (pc := 78) hK 124 dX12_readsPerson_78 (by decide) (zsub (lv' := [(0, .ref (G.2.2.2 t0)), (1, .int v_2), (2, .long (v_4.2 t0 7))]) [2, 1, 0] rfl (b_X12_readsPerson_124 hK ht0 hE v_2 (v_4.2 t0 7) 0 v_2 v_9 hg)))
      · rw [if_neg c_8] at hg
        obtain ⟨v_18, qv_18, hg⟩ := zbind_some hg
        exact z_aload_n (pc := 47) hK 1 dX12_readsPerson_47 rfl (z_iconst (pc := 48) hK dX12_readsPerson_48 zc_i3 (z_callVi (pc := 49) hK [.int 3] (m_X12_fails (zC_D hK) ht0 qv_18) sv_X12_fails q_1493 ht0 rfl [] rfl (Nat.le_of_ble_eq_true rfl) ⟨by decide, by decide⟩ dX12_readsPerson_49 (z_zretE (pc := 52) hK rfl hE hg dX12_readsPerson_52)))
    · rw [if_neg c_6] at hg
      obtain ⟨v_19, qv_19, hg⟩ := zbind_some hg
      exact z_aload_n (pc := 33) hK 1 dX12_readsPerson_33 rfl (z_iconst (pc := 34) hK dX12_readsPerson_34 zc_i1 (z_callVi (pc := 35) hK [.int 1] (m_X12_fails (zC_D hK) ht0 qv_19) sv_X12_fails q_1493 ht0 rfl [] rfl (Nat.le_of_ble_eq_true rfl) ⟨by decide, by decide⟩ dX12_readsPerson_35 (z_zretE (pc := 38) hK rfl hE hg dX12_readsPerson_38)))
  · rw [if_pos c_3] at hg
    obtain ⟨v_20, qv_20, hg⟩ := zbind_some hg
    exact z_aload_n (pc := 16) hK 1 dX12_readsPerson_16 rfl (z_iconst (pc := 17) hK dX12_readsPerson_17 zc_i5 (z_callVi (pc := 18) hK [.int 5] (m_X12_fails (zC_D hK) ht0 qv_20) sv_X12_fails q_1493 ht0 rfl [] rfl (Nat.le_of_ble_eq_true rfl) ⟨by decide, by decide⟩ dX12_readsPerson_18 (z_zretE (pc := 21) hK rfl hE hg dX12_readsPerson_21)))
theorem m_X12_readsPerson {l : Launch} {G : zG} (hG : zD G) {h : zH} {t0 : Nat} (ht0 : zT t0 = (11, 0)) {r : Bool × zH} (hg : g_X12_readsPerson h t0 = some r) : zM l G yX12_readsPerson cX12_readsPerson 4 (some .boolean) 4 88 [.ref (G.2.2.2 t0)] h (some (.int (zb r.1))) r.2 :=
  zM_of hG pn_X12 (Nat.le_of_ble_eq_true rfl) (fun K _ hK hE => b_X12_readsPerson hK ht0 hE hg)
theorem dX12_readsGrudge_0 : decode cX12_readsGrudge 0 = .ok (.aload_n 0, 1) := by decide +kernel
theorem dX12_readsGrudge_1 : decode cX12_readsGrudge 1 = .ok (.invokevirtual 197, 3) := by decide +kernel
theorem dX12_readsGrudge_4 : decode cX12_readsGrudge 4 = .ok (.aload_n 0, 1) := by decide +kernel
theorem dX12_readsGrudge_5 : decode cX12_readsGrudge 5 = .ok (.iconst 1, 1) := by decide +kernel
theorem dX12_readsGrudge_6 : decode cX12_readsGrudge 6 = .ok (.invokevirtual 290, 3) := by decide +kernel
theorem dX12_readsGrudge_9 : decode cX12_readsGrudge 9 = .ok (.ifCond .ne 5, 3) := by decide +kernel
theorem dX12_readsGrudge_12 : decode cX12_readsGrudge 12 = .ok (.iconst 0, 1) := by decide +kernel
theorem dX12_readsGrudge_13 : decode cX12_readsGrudge 13 = .ok (.ireturn, 1) := by decide +kernel
theorem dX12_readsGrudge_14 : decode cX12_readsGrudge 14 = .ok (.bipush 7, 2) := by decide +kernel
theorem dX12_readsGrudge_16 : decode cX12_readsGrudge 16 = .ok (.aload_n 0, 1) := by decide +kernel
theorem dX12_readsGrudge_17 : decode cX12_readsGrudge 17 = .ok (.getfield 280, 3) := by decide +kernel
theorem dX12_readsGrudge_20 : decode cX12_readsGrudge 20 = .ok (.imul, 1) := by decide +kernel
theorem dX12_readsGrudge_21 : decode cX12_readsGrudge 21 = .ok (.aload_n 0, 1) := by decide +kernel
theorem dX12_readsGrudge_22 : decode cX12_readsGrudge 22 = .ok (.getfield 263, 3) := by decide +kernel
theorem dX12_readsGrudge_25 : decode cX12_readsGrudge 25 = .ok (.iadd, 1) := by decide +kernel
theorem dX12_readsGrudge_26 : decode cX12_readsGrudge 26 = .ok (.istore_n 1, 1) := by decide +kernel
theorem dX12_readsGrudge_27 : decode cX12_readsGrudge 27 = .ok (.aload_n 0, 1) := by decide +kernel
theorem dX12_readsGrudge_28 : decode cX12_readsGrudge 28 = .ok (.getfield 35, 3) := by decide +kernel
theorem dX12_readsGrudge_31 : decode cX12_readsGrudge 31 = .ok (.iload_n 1, 1) := by decide +kernel
theorem dX12_readsGrudge_32 : decode cX12_readsGrudge 32 = .ok (.baload, 1) := by decide +kernel
theorem dX12_readsGrudge_33 : decode cX12_readsGrudge 33 = .ok (.ifCond .eq 9, 3) := by decide +kernel
theorem dX12_readsGrudge_36 : decode cX12_readsGrudge 36 = .ok (.aload_n 0, 1) := by decide +kernel
theorem dX12_readsGrudge_37 : decode cX12_readsGrudge 37 = .ok (.iconst 3, 1) := by decide +kernel
theorem dX12_readsGrudge_38 : decode cX12_readsGrudge 38 = .ok (.invokevirtual 190, 3) := by decide +kernel
theorem dX12_readsGrudge_41 : decode cX12_readsGrudge 41 = .ok (.ireturn, 1) := by decide +kernel
theorem dX12_readsGrudge_42 : decode cX12_readsGrudge 42 = .ok (.aload_n 0, 1) := by decide +kernel
theorem dX12_readsGrudge_43 : decode cX12_readsGrudge 43 = .ok (.invokevirtual 197, 3) := by decide +kernel
theorem dX12_readsGrudge_46 : decode cX12_readsGrudge 46 = .ok (.aload_n 0, 1) := by decide +kernel
theorem dX12_readsGrudge_47 : decode cX12_readsGrudge 47 = .ok (.iconst 0, 1) := by decide +kernel
theorem dX12_readsGrudge_48 : decode cX12_readsGrudge 48 = .ok (.bipush 9, 2) := by decide +kernel
theorem dX12_readsGrudge_50 : decode cX12_readsGrudge 50 = .ok (.invokevirtual 266, 3) := by decide +kernel
theorem dX12_readsGrudge_53 : decode cX12_readsGrudge 53 = .ok (.ifCond .ne 5, 3) := by decide +kernel
theorem dX12_readsGrudge_56 : decode cX12_readsGrudge 56 = .ok (.iconst 0, 1) := by decide +kernel
theorem dX12_readsGrudge_57 : decode cX12_readsGrudge 57 = .ok (.ireturn, 1) := by decide +kernel
theorem dX12_readsGrudge_58 : decode cX12_readsGrudge 58 = .ok (.aload_n 0, 1) := by decide +kernel
theorem dX12_readsGrudge_59 : decode cX12_readsGrudge 59 = .ok (.getfield 35, 3) := by decide +kernel
theorem dX12_readsGrudge_62 : decode cX12_readsGrudge 62 = .ok (.iload_n 1, 1) := by decide +kernel
theorem dX12_readsGrudge_63 : decode cX12_readsGrudge 63 = .ok (.iconst 1, 1) := by decide +kernel
theorem dX12_readsGrudge_64 : decode cX12_readsGrudge 64 = .ok (.bastore, 1) := by decide +kernel
theorem dX12_readsGrudge_65 : decode cX12_readsGrudge 65 = .ok (.aload_n 0, 1) := by decide +kernel
theorem dX12_readsGrudge_66 : decode cX12_readsGrudge 66 = .ok (.getfield 32, 3) := by decide +kernel
theorem dX12_readsGrudge_69 : decode cX12_readsGrudge 69 = .ok (.bipush 49, 2) := by decide +kernel
theorem dX12_readsGrudge_71 : decode cX12_readsGrudge 71 = .ok (.iload_n 1, 1) := by decide +kernel
theorem dX12_readsGrudge_72 : decode cX12_readsGrudge 72 = .ok (.iadd, 1) := by decide +kernel
theorem dX12_readsGrudge_73 : decode cX12_readsGrudge 73 = .ok (.aload_n 0, 1) := by decide +kernel
theorem dX12_readsGrudge_74 : decode cX12_readsGrudge 74 = .ok (.getfield 263, 3) := by decide +kernel
theorem dX12_readsGrudge_77 : decode cX12_readsGrudge 77 = .ok (.iastore, 1) := by decide +kernel
theorem dX12_readsGrudge_78 : decode cX12_readsGrudge 78 = .ok (.aload_n 0, 1) := by decide +kernel
theorem dX12_readsGrudge_79 : decode cX12_readsGrudge 79 = .ok (.invokevirtual 287, 3) := by decide +kernel
theorem dX12_readsGrudge_82 : decode cX12_readsGrudge 82 = .ok (.ireturn, 1) := by decide +kernel
def g_X12_readsGrudge (h : zH) (t0 : Nat) : Option (Bool × zH) := (g_X12_nextToken h t0).bind fun v_1 => (g_X12_needsTwo v_1 t0 1).bind fun v_2 => if (zb v_2.1) = 0 then (some (false, v_2.2)) else (zlet ((7 * (v_2.2.1 t0 36)) + (v_2.2.1 t0 35)) fun v_4 => zgu (zin v_4 49) <| if (v_2.2.1 (zR t0 17) (zx v_4)) = 0 then ((g_X12_nextToken v_2.2 t0).bind fun v_7 => (g_X12_needsNumber v_7 t0 0 9).bind fun v_8 => if (zb v_8.1) = 0 then (some (false, v_8.2)) else (zgu (zin v_4 49) <| zlet (zpi v_8.2 (zR t0 17) (zx v_4) (vp_nar .boolean 1)) fun h_11 => zgu (zin (49 + v_4) 98) <| zlet (zpi h_11 (zR t0 16) (zx (49 + v_4)) (h_11.1 t0 35)) fun h_13 => (g_X12_closes h_13 t0).bind fun v_14 => some (v_14.1, v_14.2))) else ((g_X12_fails v_2.2 t0 3).bind fun v_15 => some (v_15.1, v_15.2)))
set_option maxRecDepth 100000 in
set_option maxHeartbeats 4000000 in
theorem b_X12_readsGrudge {K : zK} {G : zG} (hK : zC K G cX12_readsGrudge RX12 2 3 64 (some .boolean)) {h : zH} {t0 : Nat} (ht0 : zT t0 = (11, 0)) {r : Bool × zH} (hE : zE K G (some (.int (zb r.1))) r.2) (hg : g_X12_readsGrudge h t0 = some r) : zW K G 2 0 [(0, .ref (G.2.2.2 t0))] [] h := by
  rw [g_X12_readsGrudge] at hg
  obtain ⟨v_1, qv_1, hg⟩ := zbind_some hg
  obtain ⟨v_2, qv_2, hg⟩ := zbind_some hg
  refine z_aload_n (pc := 0) hK 0 dX12_readsGrudge_0 rfl (z_callVv (pc := 1) hK [] (m_X12_nextToken (zC_D hK) ht0 qv_1) sv_X12_nextToken q_1474 ht0 rfl [] rfl (Nat.le_of_ble_eq_true rfl) ⟨by decide, by decide⟩ dX12_readsGrudge_1 (z_aload_n (pc := 4) hK 0 dX12_readsGrudge_4 rfl (z_iconst (pc := 5) hK dX12_readsGrudge_5 zc_i1 (z_callVi (pc := 6) hK [.int 1] (m_X12_needsTwo (zC_D hK) ht0 qv_2) sv_X12_needsTwo q_1553 ht0 rfl [] rfl (Nat.le_of_ble_eq_true rfl) ⟨by decide, by decide⟩ dX12_readsGrudge_6 (z_if_ne (pc := 9) hK 14 dX12_readsGrudge_9 (by decide) (fun c_3 => ?_) (fun c_3 => ?_))))))
  · rw [if_neg c_3] at hg
    obtain ⟨v_4, ev_4, hg⟩ := zlet_some hg
    obtain ⟨c_5, hg⟩ := zgu_some hg
    refine z_bipush (pc := 14) hK dX12_readsGrudge_14 zc_b7 (z_aload_n (pc := 16) hK 0 dX12_readsGrudge_16 rfl (z_getI (pc := 17) hK f_X12_280_11 ht0 dX12_readsGrudge_17 (z_imul (pc := 20) hK dX12_readsGrudge_20 (z_aload_n (pc := 21) hK 0 dX12_readsGrudge_21 rfl (z_getI (pc := 22) hK f_X12_263_11 ht0 dX12_readsGrudge_22 (z_iadd (pc := 25) hK dX12_readsGrudge_25 (z_nameI ev_4 (z_istore_n (pc := 26) hK (lv' := [(1, .int v_4), (0, .ref (G.2.2.2 t0))]) dX12_readsGrudge_26 (by decide) rfl (z_aload_n (pc := 27) hK 1 dX12_readsGrudge_27 rfl (z_getR (pc := 28) hK f_X12_35_11 ht0 dX12_readsGrudge_28 (z_iload_n (pc := 31) hK 0 dX12_readsGrudge_31 rfl (z_zald (pc := 32) hK (zt_11_17 ht0) c_5 dX12_readsGrudge_32 (z_if_eq (pc := 33) hK 42 dX12_readsGrudge_33 (by decide) (fun c_6 => ?_) (fun c_6 => ?_))))))))))))))
    · rw [if_pos c_6] at hg
      obtain ⟨v_7, qv_7, hg⟩ := zbind_some hg
      obtain ⟨v_8, qv_8, hg⟩ := zbind_some hg
      refine z_aload_n (pc := 42) hK 1 dX12_readsGrudge_42 rfl (z_callVv (pc := 43) hK [] (m_X12_nextToken (zC_D hK) ht0 qv_7) sv_X12_nextToken q_1474 ht0 rfl [] rfl (Nat.le_of_ble_eq_true rfl) ⟨by decide, by decide⟩ dX12_readsGrudge_43 (z_aload_n (pc := 46) hK 1 dX12_readsGrudge_46 rfl (z_iconst (pc := 47) hK dX12_readsGrudge_47 zc_i0 (z_bipush (pc := 48) hK dX12_readsGrudge_48 zc_b9 (z_callVi (pc := 50) hK [.int 0, .int 9] (m_X12_needsNumber (zC_D hK) ht0 qv_8) sv_X12_needsNumber q_1534 ht0 rfl [] rfl (Nat.le_of_ble_eq_true rfl) ⟨by decide, by decide⟩ dX12_readsGrudge_50 (z_if_ne (pc := 53) hK 58 dX12_readsGrudge_53 (by decide) (fun c_9 => ?_) (fun c_9 => ?_)))))))
      · rw [if_neg c_9] at hg
        obtain ⟨c_10, hg⟩ := zgu_some hg
        obtain ⟨h_11, eh_11, hg⟩ := zlet_some hg
        obtain ⟨c_12, hg⟩ := zgu_some hg
        obtain ⟨h_13, eh_13, hg⟩ := zlet_some hg
        obtain ⟨v_14, qv_14, hg⟩ := zbind_some hg
        exact z_aload_n (pc := 58) hK 1 dX12_readsGrudge_58 rfl (z_getR (pc := 59) hK f_X12_35_11 ht0 dX12_readsGrudge_59 (z_iload_n (pc := 62) hK 0 dX12_readsGrudge_62 rfl (z_iconst (pc := 63) hK dX12_readsGrudge_63 zc_i1 (z_zast (pc := 64) hK (zt_11_17 ht0) c_10 dX12_readsGrudge_64 (z_nameH eh_11 (z_aload_n (pc := 65) hK 1 dX12_readsGrudge_65 rfl (z_getR (pc := 66) hK f_X12_32_11 ht0 dX12_readsGrudge_66 (z_bipush (pc := 69) hK dX12_readsGrudge_69 zc_b49 (z_iload_n (pc := 71) hK 0 dX12_readsGrudge_71 rfl (z_iadd (pc := 72) hK dX12_readsGrudge_72 (z_aload_n (pc := 73) hK 1 dX12_readsGrudge_73 rfl (z_getI (pc := 74) hK f_X12_263_11 ht0 dX12_readsGrudge_74 (z_iast (pc := 77) hK (zt_11_16 ht0) c_12 dX12_readsGrudge_77 (z_nameH eh_13 (z_aload_n (pc := 78) hK 1 dX12_readsGrudge_78 rfl (z_callVi (pc := 79) hK [] (m_X12_closes (zC_D hK) ht0 qv_14) sv_X12_closes q_1541 ht0 rfl [] rfl (Nat.le_of_ble_eq_true rfl) ⟨by decide, by decide⟩ dX12_readsGrudge_79 (z_zretE (pc := 82) hK rfl hE hg dX12_readsGrudge_82)))))))))))))))))
      · rw [if_pos c_9] at hg
        exact z_iconst (pc := 56) hK dX12_readsGrudge_56 zc_i0 (z_zretE (pc := 57) hK rfl hE hg dX12_readsGrudge_57)
    · rw [if_neg c_6] at hg
      obtain ⟨v_15, qv_15, hg⟩ := zbind_some hg
      exact z_aload_n (pc := 36) hK 1 dX12_readsGrudge_36 rfl (z_iconst (pc := 37) hK dX12_readsGrudge_37 zc_i3 (z_callVi (pc := 38) hK [.int 3] (m_X12_fails (zC_D hK) ht0 qv_15) sv_X12_fails q_1493 ht0 rfl [] rfl (Nat.le_of_ble_eq_true rfl) ⟨by decide, by decide⟩ dX12_readsGrudge_38 (z_zretE (pc := 41) hK rfl hE hg dX12_readsGrudge_41)))
  · rw [if_pos c_3] at hg
    exact z_iconst (pc := 12) hK dX12_readsGrudge_12 zc_i0 (z_zretE (pc := 13) hK rfl hE hg dX12_readsGrudge_13)
theorem m_X12_readsGrudge {l : Launch} {G : zG} (hG : zD G) {h : zH} {t0 : Nat} (ht0 : zT t0 = (11, 0)) {r : Bool × zH} (hg : g_X12_readsGrudge h t0 = some r) : zM l G yX12_readsGrudge cX12_readsGrudge 2 (some .boolean) 3 64 [.ref (G.2.2.2 t0)] h (some (.int (zb r.1))) r.2 :=
  zM_of hG pn_X12 (Nat.le_of_ble_eq_true rfl) (fun K _ hK hE => b_X12_readsGrudge hK ht0 hE hg)
theorem dX12_readsHeir_0 : decode cX12_readsHeir 0 = .ok (.aload_n 0, 1) := by decide +kernel
theorem dX12_readsHeir_1 : decode cX12_readsHeir 1 = .ok (.invokevirtual 197, 3) := by decide +kernel
theorem dX12_readsHeir_4 : decode cX12_readsHeir 4 = .ok (.aload_n 0, 1) := by decide +kernel
theorem dX12_readsHeir_5 : decode cX12_readsHeir 5 = .ok (.iconst 1, 1) := by decide +kernel
theorem dX12_readsHeir_6 : decode cX12_readsHeir 6 = .ok (.invokevirtual 277, 3) := by decide +kernel
theorem dX12_readsHeir_9 : decode cX12_readsHeir 9 = .ok (.ifCond .ne 5, 3) := by decide +kernel
theorem dX12_readsHeir_12 : decode cX12_readsHeir 12 = .ok (.iconst 0, 1) := by decide +kernel
theorem dX12_readsHeir_13 : decode cX12_readsHeir 13 = .ok (.ireturn, 1) := by decide +kernel
theorem dX12_readsHeir_14 : decode cX12_readsHeir 14 = .ok (.aload_n 0, 1) := by decide +kernel
theorem dX12_readsHeir_15 : decode cX12_readsHeir 15 = .ok (.aload_n 0, 1) := by decide +kernel
theorem dX12_readsHeir_16 : decode cX12_readsHeir 16 = .ok (.getfield 263, 3) := by decide +kernel
theorem dX12_readsHeir_19 : decode cX12_readsHeir 19 = .ok (.putfield 280, 3) := by decide +kernel
theorem dX12_readsHeir_22 : decode cX12_readsHeir 22 = .ok (.aload_n 0, 1) := by decide +kernel
theorem dX12_readsHeir_23 : decode cX12_readsHeir 23 = .ok (.getfield 29, 3) := by decide +kernel
theorem dX12_readsHeir_26 : decode cX12_readsHeir 26 = .ok (.bipush 7, 2) := by decide +kernel
theorem dX12_readsHeir_28 : decode cX12_readsHeir 28 = .ok (.aload_n 0, 1) := by decide +kernel
theorem dX12_readsHeir_29 : decode cX12_readsHeir 29 = .ok (.getfield 280, 3) := by decide +kernel
theorem dX12_readsHeir_32 : decode cX12_readsHeir 32 = .ok (.iadd, 1) := by decide +kernel
theorem dX12_readsHeir_33 : decode cX12_readsHeir 33 = .ok (.iaload, 1) := by decide +kernel
theorem dX12_readsHeir_34 : decode cX12_readsHeir 34 = .ok (.ifCond .lt 9, 3) := by decide +kernel
theorem dX12_readsHeir_37 : decode cX12_readsHeir 37 = .ok (.aload_n 0, 1) := by decide +kernel
theorem dX12_readsHeir_38 : decode cX12_readsHeir 38 = .ok (.iconst 3, 1) := by decide +kernel
theorem dX12_readsHeir_39 : decode cX12_readsHeir 39 = .ok (.invokevirtual 190, 3) := by decide +kernel
theorem dX12_readsHeir_42 : decode cX12_readsHeir 42 = .ok (.ireturn, 1) := by decide +kernel
theorem dX12_readsHeir_43 : decode cX12_readsHeir 43 = .ok (.aload_n 0, 1) := by decide +kernel
theorem dX12_readsHeir_44 : decode cX12_readsHeir 44 = .ok (.invokevirtual 197, 3) := by decide +kernel
theorem dX12_readsHeir_47 : decode cX12_readsHeir 47 = .ok (.aload_n 0, 1) := by decide +kernel
theorem dX12_readsHeir_48 : decode cX12_readsHeir 48 = .ok (.iconst 1, 1) := by decide +kernel
theorem dX12_readsHeir_49 : decode cX12_readsHeir 49 = .ok (.invokevirtual 277, 3) := by decide +kernel
theorem dX12_readsHeir_52 : decode cX12_readsHeir 52 = .ok (.ifCond .ne 5, 3) := by decide +kernel
theorem dX12_readsHeir_55 : decode cX12_readsHeir 55 = .ok (.iconst 0, 1) := by decide +kernel
theorem dX12_readsHeir_56 : decode cX12_readsHeir 56 = .ok (.ireturn, 1) := by decide +kernel
theorem dX12_readsHeir_57 : decode cX12_readsHeir 57 = .ok (.aload_n 0, 1) := by decide +kernel
theorem dX12_readsHeir_58 : decode cX12_readsHeir 58 = .ok (.getfield 263, 3) := by decide +kernel
theorem dX12_readsHeir_61 : decode cX12_readsHeir 61 = .ok (.aload_n 0, 1) := by decide +kernel
theorem dX12_readsHeir_62 : decode cX12_readsHeir 62 = .ok (.getfield 280, 3) := by decide +kernel
theorem dX12_readsHeir_65 : decode cX12_readsHeir 65 = .ok (.if_icmp .ne 9, 3) := by decide +kernel
theorem dX12_readsHeir_68 : decode cX12_readsHeir 68 = .ok (.aload_n 0, 1) := by decide +kernel
theorem dX12_readsHeir_69 : decode cX12_readsHeir 69 = .ok (.iconst 3, 1) := by decide +kernel
theorem dX12_readsHeir_70 : decode cX12_readsHeir 70 = .ok (.invokevirtual 190, 3) := by decide +kernel
theorem dX12_readsHeir_73 : decode cX12_readsHeir 73 = .ok (.ireturn, 1) := by decide +kernel
theorem dX12_readsHeir_74 : decode cX12_readsHeir 74 = .ok (.aload_n 0, 1) := by decide +kernel
theorem dX12_readsHeir_75 : decode cX12_readsHeir 75 = .ok (.getfield 29, 3) := by decide +kernel
theorem dX12_readsHeir_78 : decode cX12_readsHeir 78 = .ok (.bipush 7, 2) := by decide +kernel
theorem dX12_readsHeir_80 : decode cX12_readsHeir 80 = .ok (.aload_n 0, 1) := by decide +kernel
theorem dX12_readsHeir_81 : decode cX12_readsHeir 81 = .ok (.getfield 280, 3) := by decide +kernel
theorem dX12_readsHeir_84 : decode cX12_readsHeir 84 = .ok (.iadd, 1) := by decide +kernel
theorem dX12_readsHeir_85 : decode cX12_readsHeir 85 = .ok (.aload_n 0, 1) := by decide +kernel
theorem dX12_readsHeir_86 : decode cX12_readsHeir 86 = .ok (.getfield 263, 3) := by decide +kernel
theorem dX12_readsHeir_89 : decode cX12_readsHeir 89 = .ok (.iastore, 1) := by decide +kernel
theorem dX12_readsHeir_90 : decode cX12_readsHeir 90 = .ok (.aload_n 0, 1) := by decide +kernel
theorem dX12_readsHeir_91 : decode cX12_readsHeir 91 = .ok (.invokevirtual 197, 3) := by decide +kernel
theorem dX12_readsHeir_94 : decode cX12_readsHeir 94 = .ok (.aload_n 0, 1) := by decide +kernel
theorem dX12_readsHeir_95 : decode cX12_readsHeir 95 = .ok (.invokevirtual 287, 3) := by decide +kernel
theorem dX12_readsHeir_98 : decode cX12_readsHeir 98 = .ok (.ireturn, 1) := by decide +kernel
def g_X12_readsHeir (h : zH) (t0 : Nat) : Option (Bool × zH) := (g_X12_nextToken h t0).bind fun v_1 => (g_X12_needsPerson v_1 t0 1).bind fun v_2 => if (zb v_2.1) = 0 then (some (false, v_2.2)) else (zlet (zpi v_2.2 t0 36 (v_2.2.1 t0 35)) fun h_4 => zgu (zin (7 + (h_4.1 t0 36)) 14) <| if (h_4.1 (zR t0 15) (zx (7 + (h_4.1 t0 36)))) < 0 then ((g_X12_nextToken h_4 t0).bind fun v_7 => (g_X12_needsPerson v_7 t0 1).bind fun v_8 => if (zb v_8.1) = 0 then (some (false, v_8.2)) else (if (v_8.2.1 t0 35) = (v_8.2.1 t0 36) then ((g_X12_fails v_8.2 t0 3).bind fun v_15 => some (v_15.1, v_15.2)) else (zgu (zin (7 + (v_8.2.1 t0 36)) 14) <| zlet (zpi v_8.2 (zR t0 15) (zx (7 + (v_8.2.1 t0 36))) (v_8.2.1 t0 35)) fun h_12 => (g_X12_nextToken h_12 t0).bind fun v_13 => (g_X12_closes v_13 t0).bind fun v_14 => some (v_14.1, v_14.2)))) else ((g_X12_fails h_4 t0 3).bind fun v_16 => some (v_16.1, v_16.2)))
set_option maxRecDepth 100000 in
set_option maxHeartbeats 4000000 in
theorem b_X12_readsHeir {K : zK} {G : zG} (hK : zC K G cX12_readsHeir RX12 1 3 62 (some .boolean)) {h : zH} {t0 : Nat} (ht0 : zT t0 = (11, 0)) {r : Bool × zH} (hE : zE K G (some (.int (zb r.1))) r.2) (hg : g_X12_readsHeir h t0 = some r) : zW K G 1 0 [(0, .ref (G.2.2.2 t0))] [] h := by
  rw [g_X12_readsHeir] at hg
  obtain ⟨v_1, qv_1, hg⟩ := zbind_some hg
  obtain ⟨v_2, qv_2, hg⟩ := zbind_some hg
  refine z_aload_n (pc := 0) hK 0 dX12_readsHeir_0 rfl (z_callVv (pc := 1) hK [] (m_X12_nextToken (zC_D hK) ht0 qv_1) sv_X12_nextToken q_1474 ht0 rfl [] rfl (Nat.le_of_ble_eq_true rfl) ⟨by decide, by decide⟩ dX12_readsHeir_1 (z_aload_n (pc := 4) hK 0 dX12_readsHeir_4 rfl (z_iconst (pc := 5) hK dX12_readsHeir_5 zc_i1 (z_callVi (pc := 6) hK [.int 1] (m_X12_needsPerson (zC_D hK) ht0 qv_2) sv_X12_needsPerson q_1557 ht0 rfl [] rfl (Nat.le_of_ble_eq_true rfl) ⟨by decide, by decide⟩ dX12_readsHeir_6 (z_if_ne (pc := 9) hK 14 dX12_readsHeir_9 (by decide) (fun c_3 => ?_) (fun c_3 => ?_))))))
  · rw [if_neg c_3] at hg
    obtain ⟨h_4, eh_4, hg⟩ := zlet_some hg
    obtain ⟨c_5, hg⟩ := zgu_some hg
    refine z_aload_n (pc := 14) hK 0 dX12_readsHeir_14 rfl (z_aload_n (pc := 15) hK 0 dX12_readsHeir_15 rfl (z_getI (pc := 16) hK f_X12_263_11 ht0 dX12_readsHeir_16 (z_putI (pc := 19) hK f_X12_280_11 fp_11_36 ht0 dX12_readsHeir_19 (z_nameH eh_4 (z_aload_n (pc := 22) hK 0 dX12_readsHeir_22 rfl (z_getR (pc := 23) hK f_X12_29_11 ht0 dX12_readsHeir_23 (z_bipush (pc := 26) hK dX12_readsHeir_26 zc_b7 (z_aload_n (pc := 28) hK 0 dX12_readsHeir_28 rfl (z_getI (pc := 29) hK f_X12_280_11 ht0 dX12_readsHeir_29 (z_iadd (pc := 32) hK dX12_readsHeir_32 (z_iald (pc := 33) hK (zt_11_15 ht0) c_5 dX12_readsHeir_33 (z_if_lt (pc := 34) hK 43 dX12_readsHeir_34 (by decide) (fun c_6 => ?_) (fun c_6 => ?_)))))))))))))
    · rw [if_pos c_6] at hg
      obtain ⟨v_7, qv_7, hg⟩ := zbind_some hg
      obtain ⟨v_8, qv_8, hg⟩ := zbind_some hg
      refine z_aload_n (pc := 43) hK 0 dX12_readsHeir_43 rfl (z_callVv (pc := 44) hK [] (m_X12_nextToken (zC_D hK) ht0 qv_7) sv_X12_nextToken q_1474 ht0 rfl [] rfl (Nat.le_of_ble_eq_true rfl) ⟨by decide, by decide⟩ dX12_readsHeir_44 (z_aload_n (pc := 47) hK 0 dX12_readsHeir_47 rfl (z_iconst (pc := 48) hK dX12_readsHeir_48 zc_i1 (z_callVi (pc := 49) hK [.int 1] (m_X12_needsPerson (zC_D hK) ht0 qv_8) sv_X12_needsPerson q_1557 ht0 rfl [] rfl (Nat.le_of_ble_eq_true rfl) ⟨by decide, by decide⟩ dX12_readsHeir_49 (z_if_ne (pc := 52) hK 57 dX12_readsHeir_52 (by decide) (fun c_9 => ?_) (fun c_9 => ?_))))))
      · rw [if_neg c_9] at hg
        refine z_aload_n (pc := 57) hK 0 dX12_readsHeir_57 rfl (z_getI (pc := 58) hK f_X12_263_11 ht0 dX12_readsHeir_58 (z_aload_n (pc := 61) hK 0 dX12_readsHeir_61 rfl (z_getI (pc := 62) hK f_X12_280_11 ht0 dX12_readsHeir_62 (z_icmp_ne (pc := 65) hK 74 dX12_readsHeir_65 (by decide) (fun c_10 => ?_) (fun c_10 => ?_)))))
        · rw [if_neg c_10] at hg
          obtain ⟨c_11, hg⟩ := zgu_some hg
          obtain ⟨h_12, eh_12, hg⟩ := zlet_some hg
          obtain ⟨v_13, qv_13, hg⟩ := zbind_some hg
          obtain ⟨v_14, qv_14, hg⟩ := zbind_some hg
          exact z_aload_n (pc := 74) hK 0 dX12_readsHeir_74 rfl (z_getR (pc := 75) hK f_X12_29_11 ht0 dX12_readsHeir_75 (z_bipush (pc := 78) hK dX12_readsHeir_78 zc_b7 (z_aload_n (pc := 80) hK 0 dX12_readsHeir_80 rfl (z_getI (pc := 81) hK f_X12_280_11 ht0 dX12_readsHeir_81 (z_iadd (pc := 84) hK dX12_readsHeir_84 (z_aload_n (pc := 85) hK 0 dX12_readsHeir_85 rfl (z_getI (pc := 86) hK f_X12_263_11 ht0 dX12_readsHeir_86 (z_iast (pc := 89) hK (zt_11_15 ht0) c_11 dX12_readsHeir_89 (z_nameH eh_12 (z_aload_n (pc := 90) hK 0 dX12_readsHeir_90 rfl (z_callVv (pc := 91) hK [] (m_X12_nextToken (zC_D hK) ht0 qv_13) sv_X12_nextToken q_1474 ht0 rfl [] rfl (Nat.le_of_ble_eq_true rfl) ⟨by decide, by decide⟩ dX12_readsHeir_91 (z_aload_n (pc := 94) hK 0 dX12_readsHeir_94 rfl (z_callVi (pc := 95) hK [] (m_X12_closes (zC_D hK) ht0 qv_14) sv_X12_closes q_1541 ht0 rfl [] rfl (Nat.le_of_ble_eq_true rfl) ⟨by decide, by decide⟩ dX12_readsHeir_95 (z_zretE (pc := 98) hK rfl hE hg dX12_readsHeir_98))))))))))))))
        · rw [if_pos c_10] at hg
          obtain ⟨v_15, qv_15, hg⟩ := zbind_some hg
          exact z_aload_n (pc := 68) hK 0 dX12_readsHeir_68 rfl (z_iconst (pc := 69) hK dX12_readsHeir_69 zc_i3 (z_callVi (pc := 70) hK [.int 3] (m_X12_fails (zC_D hK) ht0 qv_15) sv_X12_fails q_1493 ht0 rfl [] rfl (Nat.le_of_ble_eq_true rfl) ⟨by decide, by decide⟩ dX12_readsHeir_70 (z_zretE (pc := 73) hK rfl hE hg dX12_readsHeir_73)))
      · rw [if_pos c_9] at hg
        exact z_iconst (pc := 55) hK dX12_readsHeir_55 zc_i0 (z_zretE (pc := 56) hK rfl hE hg dX12_readsHeir_56)
    · rw [if_neg c_6] at hg
      obtain ⟨v_16, qv_16, hg⟩ := zbind_some hg
      exact z_aload_n (pc := 37) hK 0 dX12_readsHeir_37 rfl (z_iconst (pc := 38) hK dX12_readsHeir_38 zc_i3 (z_callVi (pc := 39) hK [.int 3] (m_X12_fails (zC_D hK) ht0 qv_16) sv_X12_fails q_1493 ht0 rfl [] rfl (Nat.le_of_ble_eq_true rfl) ⟨by decide, by decide⟩ dX12_readsHeir_39 (z_zretE (pc := 42) hK rfl hE hg dX12_readsHeir_42)))
  · rw [if_pos c_3] at hg
    exact z_iconst (pc := 12) hK dX12_readsHeir_12 zc_i0 (z_zretE (pc := 13) hK rfl hE hg dX12_readsHeir_13)
theorem m_X12_readsHeir {l : Launch} {G : zG} (hG : zD G) {h : zH} {t0 : Nat} (ht0 : zT t0 = (11, 0)) {r : Bool × zH} (hg : g_X12_readsHeir h t0 = some r) : zM l G yX12_readsHeir cX12_readsHeir 1 (some .boolean) 3 62 [.ref (G.2.2.2 t0)] h (some (.int (zb r.1))) r.2 :=
  zM_of hG pn_X12 (Nat.le_of_ble_eq_true rfl) (fun K _ hK hE => b_X12_readsHeir hK ht0 hE hg)
theorem dX12_isTwice_0 : decode cX12_isTwice 0 = .ok (.aload_n 0, 1) := by decide +kernel
theorem dX12_isTwice_1 : decode cX12_isTwice 1 = .ok (.getfield 293, 3) := by decide +kernel
theorem dX12_isTwice_4 : decode cX12_isTwice 4 = .ok (.iload_n 1, 1) := by decide +kernel
theorem dX12_isTwice_5 : decode cX12_isTwice 5 = .ok (.ishr, 1) := by decide +kernel
theorem dX12_isTwice_6 : decode cX12_isTwice 6 = .ok (.iconst 1, 1) := by decide +kernel
theorem dX12_isTwice_7 : decode cX12_isTwice 7 = .ok (.iand, 1) := by decide +kernel
theorem dX12_isTwice_8 : decode cX12_isTwice 8 = .ok (.iconst 1, 1) := by decide +kernel
theorem dX12_isTwice_9 : decode cX12_isTwice 9 = .ok (.if_icmp .ne 5, 3) := by decide +kernel
theorem dX12_isTwice_12 : decode cX12_isTwice 12 = .ok (.iconst 1, 1) := by decide +kernel
theorem dX12_isTwice_13 : decode cX12_isTwice 13 = .ok (.ireturn, 1) := by decide +kernel
theorem dX12_isTwice_14 : decode cX12_isTwice 14 = .ok (.aload_n 0, 1) := by decide +kernel
theorem dX12_isTwice_15 : decode cX12_isTwice 15 = .ok (.dup, 1) := by decide +kernel
theorem dX12_isTwice_16 : decode cX12_isTwice 16 = .ok (.getfield 293, 3) := by decide +kernel
theorem dX12_isTwice_19 : decode cX12_isTwice 19 = .ok (.iconst 1, 1) := by decide +kernel
theorem dX12_isTwice_20 : decode cX12_isTwice 20 = .ok (.iload_n 1, 1) := by decide +kernel
theorem dX12_isTwice_21 : decode cX12_isTwice 21 = .ok (.ishl, 1) := by decide +kernel
theorem dX12_isTwice_22 : decode cX12_isTwice 22 = .ok (.ior, 1) := by decide +kernel
theorem dX12_isTwice_23 : decode cX12_isTwice 23 = .ok (.putfield 293, 3) := by decide +kernel
theorem dX12_isTwice_26 : decode cX12_isTwice 26 = .ok (.iconst 0, 1) := by decide +kernel
theorem dX12_isTwice_27 : decode cX12_isTwice 27 = .ok (.ireturn, 1) := by decide +kernel
def g_X12_isTwice (h : zH) (t0 : Nat) (x1 : Int32) : Option (Bool × zH) := if (((h.1 t0 22) >>> (x1 &&& 31)) &&& 1) = 1 then (some (true, h)) else (zlet (zpi h t0 22 ((h.1 t0 22) ||| ((1 : Int32) <<< (x1 &&& 31)))) fun h_2 => some (false, h_2))
set_option maxRecDepth 100000 in
set_option maxHeartbeats 4000000 in
theorem b_X12_isTwice {K : zK} {G : zG} (hK : zC K G cX12_isTwice RX12 2 0 0 (some .boolean)) {h : zH} {t0 : Nat} {x1 : Int32} (ht0 : zT t0 = (11, 0)) {r : Bool × zH} (hE : zE K G (some (.int (zb r.1))) r.2) (hg : g_X12_isTwice h t0 x1 = some r) : zW K G 2 0 [(0, .ref (G.2.2.2 t0)), (1, .int x1)] [] h := by
  rw [g_X12_isTwice] at hg
  refine z_aload_n (pc := 0) hK 0 dX12_isTwice_0 rfl (z_getI (pc := 1) hK f_X12_293_11 ht0 dX12_isTwice_1 (z_iload_n (pc := 4) hK 1 dX12_isTwice_4 rfl (z_ishr (pc := 5) hK dX12_isTwice_5 (z_iconst (pc := 6) hK dX12_isTwice_6 zc_i1 (z_iand (pc := 7) hK dX12_isTwice_7 (z_iconst (pc := 8) hK dX12_isTwice_8 zc_i1 (z_icmp_ne (pc := 9) hK 14 dX12_isTwice_9 (by decide) (fun c_1 => ?_) (fun c_1 => ?_))))))))
  · rw [if_neg c_1] at hg
    obtain ⟨h_2, eh_2, hg⟩ := zlet_some hg
    exact z_aload_n (pc := 14) hK 0 dX12_isTwice_14 rfl (z_dup (pc := 15) hK dX12_isTwice_15 rfl (z_getI (pc := 16) hK f_X12_293_11 ht0 dX12_isTwice_16 (z_iconst (pc := 19) hK dX12_isTwice_19 zc_i1 (z_iload_n (pc := 20) hK 1 dX12_isTwice_20 rfl (z_ishl (pc := 21) hK dX12_isTwice_21 (z_ior (pc := 22) hK dX12_isTwice_22 (z_putI (pc := 23) hK f_X12_293_11 fp_11_22 ht0 dX12_isTwice_23 (z_nameH eh_2 (z_iconst (pc := 26) hK dX12_isTwice_26 zc_i0 (z_zretE (pc := 27) hK rfl hE hg dX12_isTwice_27))))))))))
  · rw [if_pos c_1] at hg
    exact z_iconst (pc := 12) hK dX12_isTwice_12 zc_i1 (z_zretE (pc := 13) hK rfl hE hg dX12_isTwice_13)
theorem m_X12_isTwice {l : Launch} {G : zG} (hG : zD G) {h : zH} {t0 : Nat} {x1 : Int32} (ht0 : zT t0 = (11, 0)) {r : Bool × zH} (hg : g_X12_isTwice h t0 x1 = some r) : zM l G yX12_isTwice cX12_isTwice 2 (some .boolean) 0 0 [.ref (G.2.2.2 t0), .int x1] h (some (.int (zb r.1))) r.2 :=
  zM_of hG pn_X12 (Nat.le_of_ble_eq_true rfl) (fun K _ hK hE => b_X12_isTwice hK ht0 hE hg)
theorem dX12_readsBar_0 : decode cX12_readsBar 0 = .ok (.aload_n 0, 1) := by decide +kernel
theorem dX12_readsBar_1 : decode cX12_readsBar 1 = .ok (.iconst 1, 1) := by decide +kernel
theorem dX12_readsBar_2 : decode cX12_readsBar 2 = .ok (.invokevirtual 296, 3) := by decide +kernel
theorem dX12_readsBar_5 : decode cX12_readsBar 5 = .ok (.ifCond .eq 9, 3) := by decide +kernel
theorem dX12_readsBar_8 : decode cX12_readsBar 8 = .ok (.aload_n 0, 1) := by decide +kernel
theorem dX12_readsBar_9 : decode cX12_readsBar 9 = .ok (.iconst 3, 1) := by decide +kernel
theorem dX12_readsBar_10 : decode cX12_readsBar 10 = .ok (.invokevirtual 190, 3) := by decide +kernel
theorem dX12_readsBar_13 : decode cX12_readsBar 13 = .ok (.ireturn, 1) := by decide +kernel
theorem dX12_readsBar_14 : decode cX12_readsBar 14 = .ok (.aload_n 0, 1) := by decide +kernel
theorem dX12_readsBar_15 : decode cX12_readsBar 15 = .ok (.invokevirtual 197, 3) := by decide +kernel
theorem dX12_readsBar_18 : decode cX12_readsBar 18 = .ok (.aload_n 0, 1) := by decide +kernel
theorem dX12_readsBar_19 : decode cX12_readsBar 19 = .ok (.iconst 1, 1) := by decide +kernel
theorem dX12_readsBar_20 : decode cX12_readsBar 20 = .ok (.bipush 9, 2) := by decide +kernel
theorem dX12_readsBar_22 : decode cX12_readsBar 22 = .ok (.invokevirtual 266, 3) := by decide +kernel
theorem dX12_readsBar_25 : decode cX12_readsBar 25 = .ok (.ifCond .ne 5, 3) := by decide +kernel
theorem dX12_readsBar_28 : decode cX12_readsBar 28 = .ok (.iconst 0, 1) := by decide +kernel
theorem dX12_readsBar_29 : decode cX12_readsBar 29 = .ok (.ireturn, 1) := by decide +kernel
theorem dX12_readsBar_30 : decode cX12_readsBar 30 = .ok (.aload_n 0, 1) := by decide +kernel
theorem dX12_readsBar_31 : decode cX12_readsBar 31 = .ok (.getfield 13, 3) := by decide +kernel
theorem dX12_readsBar_34 : decode cX12_readsBar 34 = .ok (.iconst 5, 1) := by decide +kernel
theorem dX12_readsBar_35 : decode cX12_readsBar 35 = .ok (.aload_n 0, 1) := by decide +kernel
theorem dX12_readsBar_36 : decode cX12_readsBar 36 = .ok (.getfield 263, 3) := by decide +kernel
theorem dX12_readsBar_39 : decode cX12_readsBar 39 = .ok (.iastore, 1) := by decide +kernel
theorem dX12_readsBar_40 : decode cX12_readsBar 40 = .ok (.aload_n 0, 1) := by decide +kernel
theorem dX12_readsBar_41 : decode cX12_readsBar 41 = .ok (.invokevirtual 287, 3) := by decide +kernel
theorem dX12_readsBar_44 : decode cX12_readsBar 44 = .ok (.ireturn, 1) := by decide +kernel
def g_X12_readsBar (h : zH) (t0 : Nat) : Option (Bool × zH) := (g_X12_isTwice h t0 1).bind fun v_1 => if (zb v_1.1) = 0 then ((g_X12_nextToken v_1.2 t0).bind fun v_3 => (g_X12_needsNumber v_3 t0 1 9).bind fun v_4 => if (zb v_4.1) = 0 then (some (false, v_4.2)) else (zgu (zin 5 8) <| zlet (zpi v_4.2 (zR t0 10) (zx 5) (v_4.2.1 t0 35)) fun h_7 => (g_X12_closes h_7 t0).bind fun v_8 => some (v_8.1, v_8.2))) else ((g_X12_fails v_1.2 t0 3).bind fun v_9 => some (v_9.1, v_9.2))
set_option maxRecDepth 100000 in
set_option maxHeartbeats 4000000 in
theorem b_X12_readsBar {K : zK} {G : zG} (hK : zC K G cX12_readsBar RX12 1 3 64 (some .boolean)) {h : zH} {t0 : Nat} (ht0 : zT t0 = (11, 0)) {r : Bool × zH} (hE : zE K G (some (.int (zb r.1))) r.2) (hg : g_X12_readsBar h t0 = some r) : zW K G 1 0 [(0, .ref (G.2.2.2 t0))] [] h := by
  rw [g_X12_readsBar] at hg
  obtain ⟨v_1, qv_1, hg⟩ := zbind_some hg
  refine z_aload_n (pc := 0) hK 0 dX12_readsBar_0 rfl (z_iconst (pc := 1) hK dX12_readsBar_1 zc_i1 (z_callVi (pc := 2) hK [.int 1] (m_X12_isTwice (zC_D hK) ht0 qv_1) sv_X12_isTwice q_1569 ht0 rfl [] rfl (Nat.le_of_ble_eq_true rfl) ⟨by decide, by decide⟩ dX12_readsBar_2 (z_if_eq (pc := 5) hK 14 dX12_readsBar_5 (by decide) (fun c_2 => ?_) (fun c_2 => ?_))))
  · rw [if_pos c_2] at hg
    obtain ⟨v_3, qv_3, hg⟩ := zbind_some hg
    obtain ⟨v_4, qv_4, hg⟩ := zbind_some hg
    refine z_aload_n (pc := 14) hK 0 dX12_readsBar_14 rfl (z_callVv (pc := 15) hK [] (m_X12_nextToken (zC_D hK) ht0 qv_3) sv_X12_nextToken q_1474 ht0 rfl [] rfl (Nat.le_of_ble_eq_true rfl) ⟨by decide, by decide⟩ dX12_readsBar_15 (z_aload_n (pc := 18) hK 0 dX12_readsBar_18 rfl (z_iconst (pc := 19) hK dX12_readsBar_19 zc_i1 (z_bipush (pc := 20) hK dX12_readsBar_20 zc_b9 (z_callVi (pc := 22) hK [.int 1, .int 9] (m_X12_needsNumber (zC_D hK) ht0 qv_4) sv_X12_needsNumber q_1534 ht0 rfl [] rfl (Nat.le_of_ble_eq_true rfl) ⟨by decide, by decide⟩ dX12_readsBar_22 (z_if_ne (pc := 25) hK 30 dX12_readsBar_25 (by decide) (fun c_5 => ?_) (fun c_5 => ?_)))))))
    · rw [if_neg c_5] at hg
      obtain ⟨c_6, hg⟩ := zgu_some hg
      obtain ⟨h_7, eh_7, hg⟩ := zlet_some hg
      obtain ⟨v_8, qv_8, hg⟩ := zbind_some hg
      exact z_aload_n (pc := 30) hK 0 dX12_readsBar_30 rfl (z_getR (pc := 31) hK f_X12_13_11 ht0 dX12_readsBar_31 (z_iconst (pc := 34) hK dX12_readsBar_34 zc_i5 (z_aload_n (pc := 35) hK 0 dX12_readsBar_35 rfl (z_getI (pc := 36) hK f_X12_263_11 ht0 dX12_readsBar_36 (z_iast (pc := 39) hK (zt_11_10 ht0) c_6 dX12_readsBar_39 (z_nameH eh_7 (z_aload_n (pc := 40) hK 0 dX12_readsBar_40 rfl (z_callVi (pc := 41) hK [] (m_X12_closes (zC_D hK) ht0 qv_8) sv_X12_closes q_1541 ht0 rfl [] rfl (Nat.le_of_ble_eq_true rfl) ⟨by decide, by decide⟩ dX12_readsBar_41 (z_zretE (pc := 44) hK rfl hE hg dX12_readsBar_44)))))))))
    · rw [if_pos c_5] at hg
      exact z_iconst (pc := 28) hK dX12_readsBar_28 zc_i0 (z_zretE (pc := 29) hK rfl hE hg dX12_readsBar_29)
  · rw [if_neg c_2] at hg
    obtain ⟨v_9, qv_9, hg⟩ := zbind_some hg
    exact z_aload_n (pc := 8) hK 0 dX12_readsBar_8 rfl (z_iconst (pc := 9) hK dX12_readsBar_9 zc_i3 (z_callVi (pc := 10) hK [.int 3] (m_X12_fails (zC_D hK) ht0 qv_9) sv_X12_fails q_1493 ht0 rfl [] rfl (Nat.le_of_ble_eq_true rfl) ⟨by decide, by decide⟩ dX12_readsBar_10 (z_zretE (pc := 13) hK rfl hE hg dX12_readsBar_13)))
theorem m_X12_readsBar {l : Launch} {G : zG} (hG : zD G) {h : zH} {t0 : Nat} (ht0 : zT t0 = (11, 0)) {r : Bool × zH} (hg : g_X12_readsBar h t0 = some r) : zM l G yX12_readsBar cX12_readsBar 1 (some .boolean) 3 64 [.ref (G.2.2.2 t0)] h (some (.int (zb r.1))) r.2 :=
  zM_of hG pn_X12 (Nat.le_of_ble_eq_true rfl) (fun K _ hK hE => b_X12_readsBar hK ht0 hE hg)
theorem dX12_readsWhich_0 : decode cX12_readsWhich 0 = .ok (.aload_n 0, 1) := by decide +kernel
theorem dX12_readsWhich_1 : decode cX12_readsWhich 1 = .ok (.iload_n 1, 1) := by decide +kernel
theorem dX12_readsWhich_2 : decode cX12_readsWhich 2 = .ok (.invokevirtual 296, 3) := by decide +kernel
theorem dX12_readsWhich_5 : decode cX12_readsWhich 5 = .ok (.ifCond .eq 9, 3) := by decide +kernel
theorem dX12_readsWhich_8 : decode cX12_readsWhich 8 = .ok (.aload_n 0, 1) := by decide +kernel
theorem dX12_readsWhich_9 : decode cX12_readsWhich 9 = .ok (.iconst 3, 1) := by decide +kernel
theorem dX12_readsWhich_10 : decode cX12_readsWhich 10 = .ok (.invokevirtual 190, 3) := by decide +kernel
theorem dX12_readsWhich_13 : decode cX12_readsWhich 13 = .ok (.ireturn, 1) := by decide +kernel
theorem dX12_readsWhich_14 : decode cX12_readsWhich 14 = .ok (.aload_n 0, 1) := by decide +kernel
theorem dX12_readsWhich_15 : decode cX12_readsWhich 15 = .ok (.invokevirtual 197, 3) := by decide +kernel
theorem dX12_readsWhich_18 : decode cX12_readsWhich 18 = .ok (.aload_n 0, 1) := by decide +kernel
theorem dX12_readsWhich_19 : decode cX12_readsWhich 19 = .ok (.lload_n 2, 1) := by decide +kernel
theorem dX12_readsWhich_20 : decode cX12_readsWhich 20 = .ok (.invokevirtual 182, 3) := by decide +kernel
theorem dX12_readsWhich_23 : decode cX12_readsWhich 23 = .ok (.ifCond .ne 18, 3) := by decide +kernel
theorem dX12_readsWhich_26 : decode cX12_readsWhich 26 = .ok (.aload_n 0, 1) := by decide +kernel
theorem dX12_readsWhich_27 : decode cX12_readsWhich 27 = .ok (.lload 4, 2) := by decide +kernel
theorem dX12_readsWhich_29 : decode cX12_readsWhich 29 = .ok (.invokevirtual 182, 3) := by decide +kernel
theorem dX12_readsWhich_32 : decode cX12_readsWhich 32 = .ok (.ifCond .ne 9, 3) := by decide +kernel
theorem dX12_readsWhich_35 : decode cX12_readsWhich 35 = .ok (.aload_n 0, 1) := by decide +kernel
theorem dX12_readsWhich_36 : decode cX12_readsWhich 36 = .ok (.iconst 1, 1) := by decide +kernel
theorem dX12_readsWhich_37 : decode cX12_readsWhich 37 = .ok (.invokevirtual 190, 3) := by decide +kernel
theorem dX12_readsWhich_40 : decode cX12_readsWhich 40 = .ok (.ireturn, 1) := by decide +kernel
theorem dX12_readsWhich_41 : decode cX12_readsWhich 41 = .ok (.aload_n 0, 1) := by decide +kernel
theorem dX12_readsWhich_42 : decode cX12_readsWhich 42 = .ok (.getfield 13, 3) := by decide +kernel
theorem dX12_readsWhich_45 : decode cX12_readsWhich 45 = .ok (.iconst 4, 1) := by decide +kernel
theorem dX12_readsWhich_46 : decode cX12_readsWhich 46 = .ok (.iload_n 1, 1) := by decide +kernel
theorem dX12_readsWhich_47 : decode cX12_readsWhich 47 = .ok (.iadd, 1) := by decide +kernel
theorem dX12_readsWhich_48 : decode cX12_readsWhich 48 = .ok (.aload_n 0, 1) := by decide +kernel
theorem dX12_readsWhich_49 : decode cX12_readsWhich 49 = .ok (.lload 4, 2) := by decide +kernel
theorem dX12_readsWhich_51 : decode cX12_readsWhich 51 = .ok (.invokevirtual 182, 3) := by decide +kernel
theorem dX12_readsWhich_54 : decode cX12_readsWhich 54 = .ok (.ifCond .eq 7, 3) := by decide +kernel
theorem dX12_readsWhich_57 : decode cX12_readsWhich 57 = .ok (.iconst 1, 1) := by decide +kernel
theorem dX12_readsWhich_58 : decode cX12_readsWhich 58 = .ok (.goto 4, 3) := by decide +kernel
theorem dX12_readsWhich_61 : decode cX12_readsWhich 61 = .ok (.iconst 0, 1) := by decide +kernel
theorem dX12_readsWhich_62 : decode cX12_readsWhich 62 = .ok (.iastore, 1) := by decide +kernel
theorem dX12_readsWhich_63 : decode cX12_readsWhich 63 = .ok (.aload_n 0, 1) := by decide +kernel
theorem dX12_readsWhich_64 : decode cX12_readsWhich 64 = .ok (.invokevirtual 197, 3) := by decide +kernel
theorem dX12_readsWhich_67 : decode cX12_readsWhich 67 = .ok (.aload_n 0, 1) := by decide +kernel
theorem dX12_readsWhich_68 : decode cX12_readsWhich 68 = .ok (.invokevirtual 287, 3) := by decide +kernel
theorem dX12_readsWhich_71 : decode cX12_readsWhich 71 = .ok (.ireturn, 1) := by decide +kernel
def g_X12_readsWhich_62 (t0 : Nat)  (s0 : Int32) (s1 : Int32) (h : zH) : Option (Bool × zH) := zgu (zin s1 8) <| zlet (zpi h (zR t0 10) (zx s1) s0) fun h_13 => (g_X12_nextToken h_13 t0).bind fun v_14 => (g_X12_closes v_14 t0).bind fun v_15 => some (v_15.1, v_15.2)
def g_X12_readsWhich_41 (t0 : Nat)  (x1 : Int32) (x4 : Int64) (h : zH) : Option (Bool × zH) := (g_X12_isWord h t0 x4).bind fun v_10 => if (zb v_10) = 0 then (g_X12_readsWhich_62 t0 0 (4 + x1) h) else (g_X12_readsWhich_62 t0 1 (4 + x1) h)
def g_X12_readsWhich (h : zH) (t0 : Nat) (x1 : Int32) (x2 : Int64) (x4 : Int64) : Option (Bool × zH) := (g_X12_isTwice h t0 x1).bind fun v_1 => if (zb v_1.1) = 0 then ((g_X12_nextToken v_1.2 t0).bind fun v_3 => (g_X12_isWord v_3 t0 x2).bind fun v_4 => if (zb v_4) = 0 then ((g_X12_isWord v_3 t0 x4).bind fun v_6 => if (zb v_6) = 0 then ((g_X12_fails v_3 t0 1).bind fun v_8 => some (v_8.1, v_8.2)) else (g_X12_readsWhich_41 t0 x1 x4 v_3)) else (g_X12_readsWhich_41 t0 x1 x4 v_3)) else ((g_X12_fails v_1.2 t0 3).bind fun v_9 => some (v_9.1, v_9.2))
set_option maxRecDepth 100000 in
set_option maxHeartbeats 4000000 in
theorem b_X12_readsWhich_62 {K : zK} {G : zG} (hK : zC K G cX12_readsWhich RX12 6 3 62 (some .boolean)) {t0 : Nat} (ht0 : zT t0 = (11, 0)) {r : Bool × zH} (hE : zE K G (some (.int (zb r.1))) r.2) (s0 : Int32) (s1 : Int32) (h : zH) (hg : g_X12_readsWhich_62 t0 s0 s1 h = some r) : zW K G 6 62 [(0, .ref (G.2.2.2 t0))] [.int s0, .int s1, .ref (G.2.2.2 (zR t0 10))] h := by
  rw [g_X12_readsWhich_62] at hg
  obtain ⟨c_12, hg⟩ := zgu_some hg
  obtain ⟨h_13, eh_13, hg⟩ := zlet_some hg
  obtain ⟨v_14, qv_14, hg⟩ := zbind_some hg
  obtain ⟨v_15, qv_15, hg⟩ := zbind_some hg
  exact z_iast (pc := 62) hK (zt_11_10 ht0) c_12 dX12_readsWhich_62 (z_nameH eh_13 (z_aload_n (pc := 63) hK 0 dX12_readsWhich_63 rfl (z_callVv (pc := 64) hK [] (m_X12_nextToken (zC_D hK) ht0 qv_14) sv_X12_nextToken q_1474 ht0 rfl [] rfl (Nat.le_of_ble_eq_true rfl) ⟨by decide, by decide⟩ dX12_readsWhich_64 (z_aload_n (pc := 67) hK 0 dX12_readsWhich_67 rfl (z_callVi (pc := 68) hK [] (m_X12_closes (zC_D hK) ht0 qv_15) sv_X12_closes q_1541 ht0 rfl [] rfl (Nat.le_of_ble_eq_true rfl) ⟨by decide, by decide⟩ dX12_readsWhich_68 (z_zretE (pc := 71) hK rfl hE hg dX12_readsWhich_71))))))
set_option maxRecDepth 100000 in
set_option maxHeartbeats 4000000 in
theorem b_X12_readsWhich_41 {K : zK} {G : zG} (hK : zC K G cX12_readsWhich RX12 6 3 62 (some .boolean)) {t0 : Nat} (ht0 : zT t0 = (11, 0)) {r : Bool × zH} (hE : zE K G (some (.int (zb r.1))) r.2) (x1 : Int32) (x4 : Int64) (h : zH) (hg : g_X12_readsWhich_41 t0 x1 x4 h = some r) : zW K G 6 41 [(0, .ref (G.2.2.2 t0)), (1, .int x1), (4, .long x4)] [] h := by
  rw [g_X12_readsWhich_41] at hg
  obtain ⟨v_10, qv_10, hg⟩ := zbind_some hg
  refine z_aload_n (pc := 41) hK 0 dX12_readsWhich_41 rfl (z_getR (pc := 42) hK f_X12_13_11 ht0 dX12_readsWhich_42 (z_iconst (pc := 45) hK dX12_readsWhich_45 zc_i4 (z_iload_n (pc := 46) hK 1 dX12_readsWhich_46 rfl (z_iadd (pc := 47) hK dX12_readsWhich_47 (z_aload_n (pc := 48) hK 0 dX12_readsWhich_48 rfl (z_lload (pc := 49) hK 2 dX12_readsWhich_49 rfl (z_callVi (pc := 51) hK [.long x4] (m_X12_isWord (zC_D hK) ht0 qv_10) sv_X12_isWord q_1485 ht0 rfl [.int (4 + x1), .ref (G.2.2.2 (zR t0 10))] rfl (Nat.le_of_ble_eq_true rfl) ⟨by decide, by decide⟩ dX12_readsWhich_51 (z_if_eq (pc := 54) hK 61 dX12_readsWhich_54 (by decide) (fun c_11 => ?_) (fun c_11 => ?_)))))))))
  · rw [if_pos c_11] at hg
    exact z_iconst (pc := 61) hK dX12_readsWhich_61 zc_i0 (zsub (lv' := [(0, .ref (G.2.2.2 t0))]) [0] rfl (b_X12_readsWhich_62 hK ht0 hE 0 (4 + x1) h hg))
  · rw [if_neg c_11] at hg
    exact z_iconst (pc := 57) hK dX12_readsWhich_57 zc_i1 (z_goto (pc := 58) hK 62 dX12_readsWhich_58 (by decide) (zsub (lv' := [(0, .ref (G.2.2.2 t0))]) [0] rfl (b_X12_readsWhich_62 hK ht0 hE 1 (4 + x1) h hg)))
set_option maxRecDepth 100000 in
set_option maxHeartbeats 4000000 in
theorem b_X12_readsWhich {K : zK} {G : zG} (hK : zC K G cX12_readsWhich RX12 6 3 62 (some .boolean)) {h : zH} {t0 : Nat} {x1 : Int32} {x2 : Int64} {x4 : Int64} (ht0 : zT t0 = (11, 0)) {r : Bool × zH} (hE : zE K G (some (.int (zb r.1))) r.2) (hg : g_X12_readsWhich h t0 x1 x2 x4 = some r) : zW K G 6 0 [(0, .ref (G.2.2.2 t0)), (1, .int x1), (2, .long x2), (4, .long x4)] [] h := by
  rw [g_X12_readsWhich] at hg
  obtain ⟨v_1, qv_1, hg⟩ := zbind_some hg
  refine z_aload_n (pc := 0) hK 0 dX12_readsWhich_0 rfl (z_iload_n (pc := 1) hK 1 dX12_readsWhich_1 rfl (z_callVi (pc := 2) hK [.int x1] (m_X12_isTwice (zC_D hK) ht0 qv_1) sv_X12_isTwice q_1569 ht0 rfl [] rfl (Nat.le_of_ble_eq_true rfl) ⟨by decide, by decide⟩ dX12_readsWhich_2 (z_if_eq (pc := 5) hK 14 dX12_readsWhich_5 (by decide) (fun c_2 => ?_) (fun c_2 => ?_))))
  · rw [if_pos c_2] at hg
    obtain ⟨v_3, qv_3, hg⟩ := zbind_some hg
    obtain ⟨v_4, qv_4, hg⟩ := zbind_some hg
    refine z_aload_n (pc := 14) hK 0 dX12_readsWhich_14 rfl (z_callVv (pc := 15) hK [] (m_X12_nextToken (zC_D hK) ht0 qv_3) sv_X12_nextToken q_1474 ht0 rfl [] rfl (Nat.le_of_ble_eq_true rfl) ⟨by decide, by decide⟩ dX12_readsWhich_15 (z_aload_n (pc := 18) hK 0 dX12_readsWhich_18 rfl (z_lload_n (pc := 19) hK 2 dX12_readsWhich_19 rfl (z_callVi (pc := 20) hK [.long x2] (m_X12_isWord (zC_D hK) ht0 qv_4) sv_X12_isWord q_1485 ht0 rfl [] rfl (Nat.le_of_ble_eq_true rfl) ⟨by decide, by decide⟩ dX12_readsWhich_20 (z_if_ne (pc := 23) hK 41 dX12_readsWhich_23 (by decide) (fun c_5 => ?_) (fun c_5 => ?_))))))
    · rw [if_neg c_5] at hg
      exact zsub (lv' := [(0, .ref (G.2.2.2 t0)), (1, .int x1), (4, .long x4)]) [0, 1, 3] rfl (b_X12_readsWhich_41 hK ht0 hE x1 x4 v_3 hg)
    · rw [if_pos c_5] at hg
      obtain ⟨v_6, qv_6, hg⟩ := zbind_some hg
      refine z_aload_n (pc := 26) hK 0 dX12_readsWhich_26 rfl (z_lload (pc := 27) hK 3 dX12_readsWhich_27 rfl (z_callVi (pc := 29) hK [.long x4] (m_X12_isWord (zC_D hK) ht0 qv_6) sv_X12_isWord q_1485 ht0 rfl [] rfl (Nat.le_of_ble_eq_true rfl) ⟨by decide, by decide⟩ dX12_readsWhich_29 (z_if_ne (pc := 32) hK 41 dX12_readsWhich_32 (by decide) (fun c_7 => ?_) (fun c_7 => ?_))))
      · rw [if_neg c_7] at hg
        exact zsub (lv' := [(0, .ref (G.2.2.2 t0)), (1, .int x1), (4, .long x4)]) [0, 1, 3] rfl (b_X12_readsWhich_41 hK ht0 hE x1 x4 v_3 hg)
      · rw [if_pos c_7] at hg
        obtain ⟨v_8, qv_8, hg⟩ := zbind_some hg
        exact z_aload_n (pc := 35) hK 0 dX12_readsWhich_35 rfl (z_iconst (pc := 36) hK dX12_readsWhich_36 zc_i1 (z_callVi (pc := 37) hK [.int 1] (m_X12_fails (zC_D hK) ht0 qv_8) sv_X12_fails q_1493 ht0 rfl [] rfl (Nat.le_of_ble_eq_true rfl) ⟨by decide, by decide⟩ dX12_readsWhich_37 (z_zretE (pc := 40) hK rfl hE hg dX12_readsWhich_40)))
  · rw [if_neg c_2] at hg
    obtain ⟨v_9, qv_9, hg⟩ := zbind_some hg
    exact z_aload_n (pc := 8) hK 0 dX12_readsWhich_8 rfl (z_iconst (pc := 9) hK dX12_readsWhich_9 zc_i3 (z_callVi (pc := 10) hK [.int 3] (m_X12_fails (zC_D hK) ht0 qv_9) sv_X12_fails q_1493 ht0 rfl [] rfl (Nat.le_of_ble_eq_true rfl) ⟨by decide, by decide⟩ dX12_readsWhich_10 (z_zretE (pc := 13) hK rfl hE hg dX12_readsWhich_13)))
theorem m_X12_readsWhich {l : Launch} {G : zG} (hG : zD G) {h : zH} {t0 : Nat} {x1 : Int32} {x2 : Int64} {x4 : Int64} (ht0 : zT t0 = (11, 0)) {r : Bool × zH} (hg : g_X12_readsWhich h t0 x1 x2 x4 = some r) : zM l G yX12_readsWhich cX12_readsWhich 6 (some .boolean) 3 62 [.ref (G.2.2.2 t0), .int x1, .long x2, .long x4] h (some (.int (zb r.1))) r.2 :=
  zM_of hG pn_X12 (Nat.le_of_ble_eq_true rfl) (fun K _ hK hE => b_X12_readsWhich hK ht0 hE hg)
theorem dX12_readsLaw_0 : decode cX12_readsLaw 0 = .ok (.aload_n 0, 1) := by decide +kernel
theorem dX12_readsLaw_1 : decode cX12_readsLaw 1 = .ok (.getfield 42, 3) := by decide +kernel
theorem dX12_readsLaw_4 : decode cX12_readsLaw 4 = .ok (.iconst 2, 1) := by decide +kernel
theorem dX12_readsLaw_5 : decode cX12_readsLaw 5 = .ok (.iload_n 1, 1) := by decide +kernel
theorem dX12_readsLaw_6 : decode cX12_readsLaw 6 = .ok (.iadd, 1) := by decide +kernel
theorem dX12_readsLaw_7 : decode cX12_readsLaw 7 = .ok (.iaload, 1) := by decide +kernel
theorem dX12_readsLaw_8 : decode cX12_readsLaw 8 = .ok (.aload_n 0, 1) := by decide +kernel
theorem dX12_readsLaw_9 : decode cX12_readsLaw 9 = .ok (.getfield 39, 3) := by decide +kernel
theorem dX12_readsLaw_12 : decode cX12_readsLaw 12 = .ok (.iconst 2, 1) := by decide +kernel
theorem dX12_readsLaw_13 : decode cX12_readsLaw 13 = .ok (.iload_n 1, 1) := by decide +kernel
theorem dX12_readsLaw_14 : decode cX12_readsLaw 14 = .ok (.iadd, 1) := by decide +kernel
theorem dX12_readsLaw_15 : decode cX12_readsLaw 15 = .ok (.iaload, 1) := by decide +kernel
theorem dX12_readsLaw_16 : decode cX12_readsLaw 16 = .ok (.if_icmp .le 9, 3) := by decide +kernel
theorem dX12_readsLaw_19 : decode cX12_readsLaw 19 = .ok (.aload_n 0, 1) := by decide +kernel
theorem dX12_readsLaw_20 : decode cX12_readsLaw 20 = .ok (.iconst 3, 1) := by decide +kernel
theorem dX12_readsLaw_21 : decode cX12_readsLaw 21 = .ok (.invokevirtual 190, 3) := by decide +kernel
theorem dX12_readsLaw_24 : decode cX12_readsLaw 24 = .ok (.ireturn, 1) := by decide +kernel
theorem dX12_readsLaw_25 : decode cX12_readsLaw 25 = .ok (.aload_n 0, 1) := by decide +kernel
theorem dX12_readsLaw_26 : decode cX12_readsLaw 26 = .ok (.invokevirtual 197, 3) := by decide +kernel
theorem dX12_readsLaw_29 : decode cX12_readsLaw 29 = .ok (.aload_n 0, 1) := by decide +kernel
theorem dX12_readsLaw_30 : decode cX12_readsLaw 30 = .ok (.getfield 39, 3) := by decide +kernel
theorem dX12_readsLaw_33 : decode cX12_readsLaw 33 = .ok (.iconst 2, 1) := by decide +kernel
theorem dX12_readsLaw_34 : decode cX12_readsLaw 34 = .ok (.iload_n 1, 1) := by decide +kernel
theorem dX12_readsLaw_35 : decode cX12_readsLaw 35 = .ok (.iadd, 1) := by decide +kernel
theorem dX12_readsLaw_36 : decode cX12_readsLaw 36 = .ok (.aload_n 0, 1) := by decide +kernel
theorem dX12_readsLaw_37 : decode cX12_readsLaw 37 = .ok (.getfield 165, 3) := by decide +kernel
theorem dX12_readsLaw_40 : decode cX12_readsLaw 40 = .ok (.iastore, 1) := by decide +kernel
theorem dX12_readsLaw_41 : decode cX12_readsLaw 41 = .ok (.aload_n 0, 1) := by decide +kernel
theorem dX12_readsLaw_42 : decode cX12_readsLaw 42 = .ok (.invokevirtual 299, 3) := by decide +kernel
theorem dX12_readsLaw_45 : decode cX12_readsLaw 45 = .ok (.ifCond .ne 5, 3) := by decide +kernel
theorem dX12_readsLaw_48 : decode cX12_readsLaw 48 = .ok (.iconst 0, 1) := by decide +kernel
theorem dX12_readsLaw_49 : decode cX12_readsLaw 49 = .ok (.ireturn, 1) := by decide +kernel
theorem dX12_readsLaw_50 : decode cX12_readsLaw 50 = .ok (.aload_n 0, 1) := by decide +kernel
theorem dX12_readsLaw_51 : decode cX12_readsLaw 51 = .ok (.getfield 42, 3) := by decide +kernel
theorem dX12_readsLaw_54 : decode cX12_readsLaw 54 = .ok (.iconst 2, 1) := by decide +kernel
theorem dX12_readsLaw_55 : decode cX12_readsLaw 55 = .ok (.iload_n 1, 1) := by decide +kernel
theorem dX12_readsLaw_56 : decode cX12_readsLaw 56 = .ok (.iadd, 1) := by decide +kernel
theorem dX12_readsLaw_57 : decode cX12_readsLaw 57 = .ok (.aload_n 0, 1) := by decide +kernel
theorem dX12_readsLaw_58 : decode cX12_readsLaw 58 = .ok (.getfield 165, 3) := by decide +kernel
theorem dX12_readsLaw_61 : decode cX12_readsLaw 61 = .ok (.iastore, 1) := by decide +kernel
theorem dX12_readsLaw_62 : decode cX12_readsLaw 62 = .ok (.iconst 1, 1) := by decide +kernel
theorem dX12_readsLaw_63 : decode cX12_readsLaw 63 = .ok (.ireturn, 1) := by decide +kernel
def g_X12_readsLaw (h : zH) (t0 : Nat) (x1 : Int32) : Option (Bool × zH) := zgu (zin (2 + x1) 4) <| zgu (zin (2 + x1) 4) <| if (h.1 (zR t0 19) (zx (2 + x1))) ≤ (h.1 (zR t0 18) (zx (2 + x1))) then ((g_X12_nextToken h t0).bind fun v_4 => zgu (zin (2 + x1) 4) <| zlet (zpi v_4 (zR t0 18) (zx (2 + x1)) (v_4.1 t0 21)) fun h_6 => (g_X12_reads h_6 t0).bind fun v_7 => if (zb v_7.1) = 0 then (some (false, v_7.2)) else (zgu (zin (2 + x1) 4) <| zlet (zpi v_7.2 (zR t0 19) (zx (2 + x1)) (v_7.2.1 t0 21)) fun h_10 => some (true, h_10))) else ((g_X12_fails h t0 3).bind fun v_11 => some (v_11.1, v_11.2))
set_option maxRecDepth 100000 in
set_option maxHeartbeats 4000000 in
theorem b_X12_readsLaw {K : zK} {G : zG} (hK : zC K G cX12_readsLaw RX12 2 3 67 (some .boolean)) {h : zH} {t0 : Nat} {x1 : Int32} (ht0 : zT t0 = (11, 0)) {r : Bool × zH} (hE : zE K G (some (.int (zb r.1))) r.2) (hg : g_X12_readsLaw h t0 x1 = some r) : zW K G 2 0 [(0, .ref (G.2.2.2 t0)), (1, .int x1)] [] h := by
  rw [g_X12_readsLaw] at hg
  obtain ⟨c_1, hg⟩ := zgu_some hg
  obtain ⟨c_2, hg⟩ := zgu_some hg
  refine z_aload_n (pc := 0) hK 0 dX12_readsLaw_0 rfl (z_getR (pc := 1) hK f_X12_42_11 ht0 dX12_readsLaw_1 (z_iconst (pc := 4) hK dX12_readsLaw_4 zc_i2 (z_iload_n (pc := 5) hK 1 dX12_readsLaw_5 rfl (z_iadd (pc := 6) hK dX12_readsLaw_6 (z_iald (pc := 7) hK (zt_11_19 ht0) c_1 dX12_readsLaw_7 (z_aload_n (pc := 8) hK 0 dX12_readsLaw_8 rfl (z_getR (pc := 9) hK f_X12_39_11 ht0 dX12_readsLaw_9 (z_iconst (pc := 12) hK dX12_readsLaw_12 zc_i2 (z_iload_n (pc := 13) hK 1 dX12_readsLaw_13 rfl (z_iadd (pc := 14) hK dX12_readsLaw_14 (z_iald (pc := 15) hK (zt_11_18 ht0) c_2 dX12_readsLaw_15 (z_icmp_le (pc := 16) hK 25 dX12_readsLaw_16 (by decide) (fun c_3 => ?_) (fun c_3 => ?_)))))))))))))
  · rw [if_pos c_3] at hg
    obtain ⟨v_4, qv_4, hg⟩ := zbind_some hg
    obtain ⟨c_5, hg⟩ := zgu_some hg
    obtain ⟨h_6, eh_6, hg⟩ := zlet_some hg
    obtain ⟨v_7, qv_7, hg⟩ := zbind_some hg
    refine z_aload_n (pc := 25) hK 0 dX12_readsLaw_25 rfl (z_callVv (pc := 26) hK [] (m_X12_nextToken (zC_D hK) ht0 qv_4) sv_X12_nextToken q_1474 ht0 rfl [] rfl (Nat.le_of_ble_eq_true rfl) ⟨by decide, by decide⟩ dX12_readsLaw_26 (z_aload_n (pc := 29) hK 0 dX12_readsLaw_29 rfl (z_getR (pc := 30) hK f_X12_39_11 ht0 dX12_readsLaw_30 (z_iconst (pc := 33) hK dX12_readsLaw_33 zc_i2 (z_iload_n (pc := 34) hK 1 dX12_readsLaw_34 rfl (z_iadd (pc := 35) hK dX12_readsLaw_35 (z_aload_n (pc := 36) hK 0 dX12_readsLaw_36 rfl (z_getI (pc := 37) hK f_X12_165_11 ht0 dX12_readsLaw_37 (z_iast (pc := 40) hK (zt_11_18 ht0) c_5 dX12_readsLaw_40 (z_nameH eh_6 (z_aload_n (pc := 41) hK 0 dX12_readsLaw_41 rfl (z_callVi (pc := 42) hK [] (m_X12_reads (zC_D hK) ht0 qv_7) sv_X12_reads q_1581 ht0 rfl [] rfl (Nat.le_of_ble_eq_true rfl) ⟨by decide, by decide⟩ dX12_readsLaw_42 (z_if_ne (pc := 45) hK 50 dX12_readsLaw_45 (by decide) (fun c_8 => ?_) (fun c_8 => ?_))))))))))))))
    · rw [if_neg c_8] at hg
      obtain ⟨c_9, hg⟩ := zgu_some hg
      obtain ⟨h_10, eh_10, hg⟩ := zlet_some hg
      exact z_aload_n (pc := 50) hK 0 dX12_readsLaw_50 rfl (z_getR (pc := 51) hK f_X12_42_11 ht0 dX12_readsLaw_51 (z_iconst (pc := 54) hK dX12_readsLaw_54 zc_i2 (z_iload_n (pc := 55) hK 1 dX12_readsLaw_55 rfl (z_iadd (pc := 56) hK dX12_readsLaw_56 (z_aload_n (pc := 57) hK 0 dX12_readsLaw_57 rfl (z_getI (pc := 58) hK f_X12_165_11 ht0 dX12_readsLaw_58 (z_iast (pc := 61) hK (zt_11_19 ht0) c_9 dX12_readsLaw_61 (z_nameH eh_10 (z_iconst (pc := 62) hK dX12_readsLaw_62 zc_i1 (z_zretE (pc := 63) hK rfl hE hg dX12_readsLaw_63))))))))))
    · rw [if_pos c_8] at hg
      exact z_iconst (pc := 48) hK dX12_readsLaw_48 zc_i0 (z_zretE (pc := 49) hK rfl hE hg dX12_readsLaw_49)
  · rw [if_neg c_3] at hg
    obtain ⟨v_11, qv_11, hg⟩ := zbind_some hg
    exact z_aload_n (pc := 19) hK 0 dX12_readsLaw_19 rfl (z_iconst (pc := 20) hK dX12_readsLaw_20 zc_i3 (z_callVi (pc := 21) hK [.int 3] (m_X12_fails (zC_D hK) ht0 qv_11) sv_X12_fails q_1493 ht0 rfl [] rfl (Nat.le_of_ble_eq_true rfl) ⟨by decide, by decide⟩ dX12_readsLaw_21 (z_zretE (pc := 24) hK rfl hE hg dX12_readsLaw_24)))
theorem m_X12_readsLaw {l : Launch} {G : zG} (hG : zD G) {h : zH} {t0 : Nat} {x1 : Int32} (ht0 : zT t0 = (11, 0)) {r : Bool × zH} (hg : g_X12_readsLaw h t0 x1 = some r) : zM l G yX12_readsLaw cX12_readsLaw 2 (some .boolean) 3 67 [.ref (G.2.2.2 t0), .int x1] h (some (.int (zb r.1))) r.2 :=
  zM_of hG pn_X12 (Nat.le_of_ble_eq_true rfl) (fun K _ hK hE => b_X12_readsLaw hK ht0 hE hg)
theorem dX12_begins_0 : decode cX12_begins 0 = .ok (.aload_n 0, 1) := by decide +kernel
theorem dX12_begins_1 : decode cX12_begins 1 = .ok (.aload_n 0, 1) := by decide +kernel
theorem dX12_begins_2 : decode cX12_begins 2 = .ok (.getfield 132, 3) := by decide +kernel
theorem dX12_begins_5 : decode cX12_begins 5 = .ok (.putfield 135, 3) := by decide +kernel
theorem dX12_begins_8 : decode cX12_begins 8 = .ok (.aload_n 0, 1) := by decide +kernel
theorem dX12_begins_9 : decode cX12_begins 9 = .ok (.iconst 0, 1) := by decide +kernel
theorem dX12_begins_10 : decode cX12_begins 10 = .ok (.putfield 132, 3) := by decide +kernel
theorem dX12_begins_13 : decode cX12_begins 13 = .ok (.aload_n 0, 1) := by decide +kernel
theorem dX12_begins_14 : decode cX12_begins 14 = .ok (.iconst 0, 1) := by decide +kernel
theorem dX12_begins_15 : decode cX12_begins 15 = .ok (.putfield 138, 3) := by decide +kernel
theorem dX12_begins_18 : decode cX12_begins 18 = .ok (.aload_n 0, 1) := by decide +kernel
theorem dX12_begins_19 : decode cX12_begins 19 = .ok (.invokevirtual 197, 3) := by decide +kernel
theorem dX12_begins_22 : decode cX12_begins 22 = .ok (.return_, 1) := by decide +kernel
def g_X12_begins (h : zH) (t0 : Nat) : Option zH := zlet (zpi h t0 3 (h.1 t0 1)) fun h_1 => zlet (zpi h_1 t0 1 0) fun h_2 => zlet (zpi h_2 t0 4 0) fun h_3 => (g_X12_nextToken h_3 t0).bind fun v_4 => some v_4
set_option maxRecDepth 100000 in
set_option maxHeartbeats 4000000 in
theorem b_X12_begins {K : zK} {G : zG} (hK : zC K G cX12_begins RX12 1 2 42 none) {h : zH} {t0 : Nat} (ht0 : zT t0 = (11, 0)) {r : zH} (hE : zE K G (none) r) (hg : g_X12_begins h t0 = some r) : zW K G 1 0 [(0, .ref (G.2.2.2 t0))] [] h := by
  rw [g_X12_begins] at hg
  obtain ⟨h_1, eh_1, hg⟩ := zlet_some hg
  obtain ⟨h_2, eh_2, hg⟩ := zlet_some hg
  obtain ⟨h_3, eh_3, hg⟩ := zlet_some hg
  obtain ⟨v_4, qv_4, hg⟩ := zbind_some hg
  exact z_aload_n (pc := 0) hK 0 dX12_begins_0 rfl (z_aload_n (pc := 1) hK 0 dX12_begins_1 rfl (z_getI (pc := 2) hK f_X12_132_11 ht0 dX12_begins_2 (z_putI (pc := 5) hK f_X12_135_11 fp_11_3 ht0 dX12_begins_5 (z_nameH eh_1 (z_aload_n (pc := 8) hK 0 dX12_begins_8 rfl (z_iconst (pc := 9) hK dX12_begins_9 zc_i0 (z_putI (pc := 10) hK f_X12_132_11 fp_11_1 ht0 dX12_begins_10 (z_nameH eh_2 (z_aload_n (pc := 13) hK 0 dX12_begins_13 rfl (z_iconst (pc := 14) hK dX12_begins_14 zc_i0 (z_putI (pc := 15) hK f_X12_138_11 fp_11_4 ht0 dX12_begins_15 (z_nameH eh_3 (z_aload_n (pc := 18) hK 0 dX12_begins_18 rfl (z_callVv (pc := 19) hK [] (m_X12_nextToken (zC_D hK) ht0 qv_4) sv_X12_nextToken q_1474 ht0 rfl [] rfl (Nat.le_of_ble_eq_true rfl) ⟨by decide, by decide⟩ dX12_begins_19 (z_vretE (pc := 22) hK hE hg dX12_begins_22)))))))))))))))
theorem m_X12_begins {l : Launch} {G : zG} (hG : zD G) {h : zH} {t0 : Nat} (ht0 : zT t0 = (11, 0)) {r : zH} (hg : g_X12_begins h t0 = some r) : zM l G yX12_begins cX12_begins 1 none 2 42 [.ref (G.2.2.2 t0)] h (none) r :=
  zM_of hG pn_X12 (Nat.le_of_ble_eq_true rfl) (fun K _ hK hE => b_X12_begins hK ht0 hE hg)
theorem dX12_readsAll_0 : decode cX12_readsAll 0 = .ok (.iconst 4, 1) := by decide +kernel
theorem dX12_readsAll_1 : decode cX12_readsAll 1 = .ok (.istore_n 1, 1) := by decide +kernel
theorem dX12_readsAll_2 : decode cX12_readsAll 2 = .ok (.iload_n 1, 1) := by decide +kernel
theorem dX12_readsAll_3 : decode cX12_readsAll 3 = .ok (.bipush 8, 2) := by decide +kernel
theorem dX12_readsAll_5 : decode cX12_readsAll 5 = .ok (.if_icmp .ge 26, 3) := by decide +kernel
theorem dX12_readsAll_8 : decode cX12_readsAll 8 = .ok (.aload_n 0, 1) := by decide +kernel
theorem dX12_readsAll_9 : decode cX12_readsAll 9 = .ok (.getfield 13, 3) := by decide +kernel
theorem dX12_readsAll_12 : decode cX12_readsAll 12 = .ok (.iload_n 1, 1) := by decide +kernel
theorem dX12_readsAll_13 : decode cX12_readsAll 13 = .ok (.iload_n 1, 1) := by decide +kernel
theorem dX12_readsAll_14 : decode cX12_readsAll 14 = .ok (.iconst 5, 1) := by decide +kernel
theorem dX12_readsAll_15 : decode cX12_readsAll 15 = .ok (.if_icmp .ne 8, 3) := by decide +kernel
theorem dX12_readsAll_18 : decode cX12_readsAll 18 = .ok (.bipush 7, 2) := by decide +kernel
theorem dX12_readsAll_20 : decode cX12_readsAll 20 = .ok (.goto 4, 3) := by decide +kernel
theorem dX12_readsAll_23 : decode cX12_readsAll 23 = .ok (.iconst 0, 1) := by decide +kernel
theorem dX12_readsAll_24 : decode cX12_readsAll 24 = .ok (.iastore, 1) := by decide +kernel
theorem dX12_readsAll_25 : decode cX12_readsAll 25 = .ok (.iinc 1 1, 3) := by decide +kernel
theorem dX12_readsAll_28 : decode cX12_readsAll 28 = .ok (.goto (-26), 3) := by decide +kernel
theorem dX12_readsAll_31 : decode cX12_readsAll 31 = .ok (.iconst 0, 1) := by decide +kernel
theorem dX12_readsAll_32 : decode cX12_readsAll 32 = .ok (.istore_n 1, 1) := by decide +kernel
theorem dX12_readsAll_33 : decode cX12_readsAll 33 = .ok (.iload_n 1, 1) := by decide +kernel
theorem dX12_readsAll_34 : decode cX12_readsAll 34 = .ok (.bipush 49, 2) := by decide +kernel
theorem dX12_readsAll_36 : decode cX12_readsAll 36 = .ok (.if_icmp .ge 26, 3) := by decide +kernel
theorem dX12_readsAll_39 : decode cX12_readsAll 39 = .ok (.aload_n 0, 1) := by decide +kernel
theorem dX12_readsAll_40 : decode cX12_readsAll 40 = .ok (.getfield 35, 3) := by decide +kernel
theorem dX12_readsAll_43 : decode cX12_readsAll 43 = .ok (.iload_n 1, 1) := by decide +kernel
theorem dX12_readsAll_44 : decode cX12_readsAll 44 = .ok (.iconst 0, 1) := by decide +kernel
theorem dX12_readsAll_45 : decode cX12_readsAll 45 = .ok (.bastore, 1) := by decide +kernel
theorem dX12_readsAll_46 : decode cX12_readsAll 46 = .ok (.aload_n 0, 1) := by decide +kernel
theorem dX12_readsAll_47 : decode cX12_readsAll 47 = .ok (.getfield 32, 3) := by decide +kernel
theorem dX12_readsAll_50 : decode cX12_readsAll 50 = .ok (.bipush 49, 2) := by decide +kernel
theorem dX12_readsAll_52 : decode cX12_readsAll 52 = .ok (.iload_n 1, 1) := by decide +kernel
theorem dX12_readsAll_53 : decode cX12_readsAll 53 = .ok (.iadd, 1) := by decide +kernel
theorem dX12_readsAll_54 : decode cX12_readsAll 54 = .ok (.iconst 0, 1) := by decide +kernel
theorem dX12_readsAll_55 : decode cX12_readsAll 55 = .ok (.iastore, 1) := by decide +kernel
theorem dX12_readsAll_56 : decode cX12_readsAll 56 = .ok (.iinc 1 1, 3) := by decide +kernel
theorem dX12_readsAll_59 : decode cX12_readsAll 59 = .ok (.goto (-26), 3) := by decide +kernel
theorem dX12_readsAll_62 : decode cX12_readsAll 62 = .ok (.iconst 2, 1) := by decide +kernel
theorem dX12_readsAll_63 : decode cX12_readsAll 63 = .ok (.istore_n 1, 1) := by decide +kernel
theorem dX12_readsAll_64 : decode cX12_readsAll 64 = .ok (.iload_n 1, 1) := by decide +kernel
theorem dX12_readsAll_65 : decode cX12_readsAll 65 = .ok (.iconst 4, 1) := by decide +kernel
theorem dX12_readsAll_66 : decode cX12_readsAll 66 = .ok (.if_icmp .ge 27, 3) := by decide +kernel
theorem dX12_readsAll_69 : decode cX12_readsAll 69 = .ok (.aload_n 0, 1) := by decide +kernel
theorem dX12_readsAll_70 : decode cX12_readsAll 70 = .ok (.getfield 39, 3) := by decide +kernel
theorem dX12_readsAll_73 : decode cX12_readsAll 73 = .ok (.iload_n 1, 1) := by decide +kernel
theorem dX12_readsAll_74 : decode cX12_readsAll 74 = .ok (.sipush 1000, 3) := by decide +kernel
theorem dX12_readsAll_77 : decode cX12_readsAll 77 = .ok (.iastore, 1) := by decide +kernel
theorem dX12_readsAll_78 : decode cX12_readsAll 78 = .ok (.aload_n 0, 1) := by decide +kernel
theorem dX12_readsAll_79 : decode cX12_readsAll 79 = .ok (.getfield 42, 3) := by decide +kernel
theorem dX12_readsAll_82 : decode cX12_readsAll 82 = .ok (.iload_n 1, 1) := by decide +kernel
theorem dX12_readsAll_83 : decode cX12_readsAll 83 = .ok (.sipush 1000, 3) := by decide +kernel
theorem dX12_readsAll_86 : decode cX12_readsAll 86 = .ok (.iastore, 1) := by decide +kernel
theorem dX12_readsAll_87 : decode cX12_readsAll 87 = .ok (.iinc 1 1, 3) := by decide +kernel
theorem dX12_readsAll_90 : decode cX12_readsAll 90 = .ok (.goto (-26), 3) := by decide +kernel
theorem dX12_readsAll_93 : decode cX12_readsAll 93 = .ok (.aload_n 0, 1) := by decide +kernel
theorem dX12_readsAll_94 : decode cX12_readsAll 94 = .ok (.iconst 0, 1) := by decide +kernel
theorem dX12_readsAll_95 : decode cX12_readsAll 95 = .ok (.putfield 293, 3) := by decide +kernel
theorem dX12_readsAll_98 : decode cX12_readsAll 98 = .ok (.aload_n 0, 1) := by decide +kernel
theorem dX12_readsAll_99 : decode cX12_readsAll 99 = .ok (.sipush 1000, 3) := by decide +kernel
theorem dX12_readsAll_102 : decode cX12_readsAll 102 = .ok (.putfield 165, 3) := by decide +kernel
theorem dX12_readsAll_105 : decode cX12_readsAll 105 = .ok (.aload_n 0, 1) := by decide +kernel
theorem dX12_readsAll_106 : decode cX12_readsAll 106 = .ok (.invokevirtual 302, 3) := by decide +kernel
theorem dX12_readsAll_109 : decode cX12_readsAll 109 = .ok (.aload_n 0, 1) := by decide +kernel
theorem dX12_readsAll_110 : decode cX12_readsAll 110 = .ok (.getfield 151, 3) := by decide +kernel
theorem dX12_readsAll_113 : decode cX12_readsAll 113 = .ok (.ifCond .eq 170, 3) := by decide +kernel
theorem dX12_readsAll_116 : decode cX12_readsAll 116 = .ok (.aload_n 0, 1) := by decide +kernel
theorem dX12_readsAll_117 : decode cX12_readsAll 117 = .ok (.ldc2_w 213, 3) := by decide +kernel
theorem dX12_readsAll_120 : decode cX12_readsAll 120 = .ok (.invokevirtual 182, 3) := by decide +kernel
theorem dX12_readsAll_123 : decode cX12_readsAll 123 = .ok (.ifCond .eq 10, 3) := by decide +kernel
theorem dX12_readsAll_126 : decode cX12_readsAll 126 = .ok (.aload_n 0, 1) := by decide +kernel
theorem dX12_readsAll_127 : decode cX12_readsAll 127 = .ok (.invokevirtual 305, 3) := by decide +kernel
theorem dX12_readsAll_130 : decode cX12_readsAll 130 = .ok (.goto 143, 3) := by decide +kernel
theorem dX12_readsAll_133 : decode cX12_readsAll 133 = .ok (.aload_n 0, 1) := by decide +kernel
theorem dX12_readsAll_134 : decode cX12_readsAll 134 = .ok (.ldc2_w 219, 3) := by decide +kernel
theorem dX12_readsAll_137 : decode cX12_readsAll 137 = .ok (.invokevirtual 182, 3) := by decide +kernel
theorem dX12_readsAll_140 : decode cX12_readsAll 140 = .ok (.ifCond .eq 10, 3) := by decide +kernel
theorem dX12_readsAll_143 : decode cX12_readsAll 143 = .ok (.aload_n 0, 1) := by decide +kernel
theorem dX12_readsAll_144 : decode cX12_readsAll 144 = .ok (.invokevirtual 308, 3) := by decide +kernel
theorem dX12_readsAll_147 : decode cX12_readsAll 147 = .ok (.goto 126, 3) := by decide +kernel
theorem dX12_readsAll_150 : decode cX12_readsAll 150 = .ok (.aload_n 0, 1) := by decide +kernel
theorem dX12_readsAll_151 : decode cX12_readsAll 151 = .ok (.ldc2_w 221, 3) := by decide +kernel
theorem dX12_readsAll_154 : decode cX12_readsAll 154 = .ok (.invokevirtual 182, 3) := by decide +kernel
theorem dX12_readsAll_157 : decode cX12_readsAll 157 = .ok (.ifCond .eq 10, 3) := by decide +kernel
theorem dX12_readsAll_160 : decode cX12_readsAll 160 = .ok (.aload_n 0, 1) := by decide +kernel
theorem dX12_readsAll_161 : decode cX12_readsAll 161 = .ok (.invokevirtual 311, 3) := by decide +kernel
theorem dX12_readsAll_164 : decode cX12_readsAll 164 = .ok (.goto 109, 3) := by decide +kernel
theorem dX12_readsAll_167 : decode cX12_readsAll 167 = .ok (.aload_n 0, 1) := by decide +kernel
theorem dX12_readsAll_168 : decode cX12_readsAll 168 = .ok (.ldc2_w 223, 3) := by decide +kernel
theorem dX12_readsAll_171 : decode cX12_readsAll 171 = .ok (.invokevirtual 182, 3) := by decide +kernel
theorem dX12_readsAll_174 : decode cX12_readsAll 174 = .ok (.ifCond .eq 10, 3) := by decide +kernel
theorem dX12_readsAll_177 : decode cX12_readsAll 177 = .ok (.aload_n 0, 1) := by decide +kernel
theorem dX12_readsAll_178 : decode cX12_readsAll 178 = .ok (.invokevirtual 314, 3) := by decide +kernel
theorem dX12_readsAll_181 : decode cX12_readsAll 181 = .ok (.goto 92, 3) := by decide +kernel
theorem dX12_readsAll_184 : decode cX12_readsAll 184 = .ok (.aload_n 0, 1) := by decide +kernel
theorem dX12_readsAll_185 : decode cX12_readsAll 185 = .ok (.ldc2_w 225, 3) := by decide +kernel
theorem dX12_readsAll_188 : decode cX12_readsAll 188 = .ok (.invokevirtual 182, 3) := by decide +kernel
theorem dX12_readsAll_191 : decode cX12_readsAll 191 = .ok (.ifCond .eq 17, 3) := by decide +kernel
theorem dX12_readsAll_194 : decode cX12_readsAll 194 = .ok (.aload_n 0, 1) := by decide +kernel
theorem dX12_readsAll_195 : decode cX12_readsAll 195 = .ok (.iconst 2, 1) := by decide +kernel
theorem dX12_readsAll_196 : decode cX12_readsAll 196 = .ok (.ldc2_w 243, 3) := by decide +kernel
theorem dX12_readsAll_199 : decode cX12_readsAll 199 = .ok (.ldc2_w 245, 3) := by decide +kernel
theorem dX12_readsAll_202 : decode cX12_readsAll 202 = .ok (.invokevirtual 317, 3) := by decide +kernel
theorem dX12_readsAll_205 : decode cX12_readsAll 205 = .ok (.goto 68, 3) := by decide +kernel
theorem dX12_readsAll_208 : decode cX12_readsAll 208 = .ok (.aload_n 0, 1) := by decide +kernel
theorem dX12_readsAll_209 : decode cX12_readsAll 209 = .ok (.ldc2_w 227, 3) := by decide +kernel
theorem dX12_readsAll_212 : decode cX12_readsAll 212 = .ok (.invokevirtual 182, 3) := by decide +kernel
theorem dX12_readsAll_215 : decode cX12_readsAll 215 = .ok (.ifCond .eq 17, 3) := by decide +kernel
theorem dX12_readsAll_218 : decode cX12_readsAll 218 = .ok (.aload_n 0, 1) := by decide +kernel
theorem dX12_readsAll_219 : decode cX12_readsAll 219 = .ok (.iconst 3, 1) := by decide +kernel
theorem dX12_readsAll_220 : decode cX12_readsAll 220 = .ok (.ldc2_w 247, 3) := by decide +kernel
theorem dX12_readsAll_223 : decode cX12_readsAll 223 = .ok (.ldc2_w 249, 3) := by decide +kernel
theorem dX12_readsAll_226 : decode cX12_readsAll 226 = .ok (.invokevirtual 317, 3) := by decide +kernel
theorem dX12_readsAll_229 : decode cX12_readsAll 229 = .ok (.goto 44, 3) := by decide +kernel
theorem dX12_readsAll_232 : decode cX12_readsAll 232 = .ok (.aload_n 0, 1) := by decide +kernel
theorem dX12_readsAll_233 : decode cX12_readsAll 233 = .ok (.ldc2_w 229, 3) := by decide +kernel
theorem dX12_readsAll_236 : decode cX12_readsAll 236 = .ok (.invokevirtual 182, 3) := by decide +kernel
theorem dX12_readsAll_239 : decode cX12_readsAll 239 = .ok (.ifCond .eq 11, 3) := by decide +kernel
theorem dX12_readsAll_242 : decode cX12_readsAll 242 = .ok (.aload_n 0, 1) := by decide +kernel
theorem dX12_readsAll_243 : decode cX12_readsAll 243 = .ok (.iconst 0, 1) := by decide +kernel
theorem dX12_readsAll_244 : decode cX12_readsAll 244 = .ok (.invokevirtual 321, 3) := by decide +kernel
theorem dX12_readsAll_247 : decode cX12_readsAll 247 = .ok (.goto 26, 3) := by decide +kernel
theorem dX12_readsAll_250 : decode cX12_readsAll 250 = .ok (.aload_n 0, 1) := by decide +kernel
theorem dX12_readsAll_251 : decode cX12_readsAll 251 = .ok (.ldc2_w 231, 3) := by decide +kernel
theorem dX12_readsAll_254 : decode cX12_readsAll 254 = .ok (.invokevirtual 182, 3) := by decide +kernel
theorem dX12_readsAll_257 : decode cX12_readsAll 257 = .ok (.ifCond .eq 11, 3) := by decide +kernel
theorem dX12_readsAll_260 : decode cX12_readsAll 260 = .ok (.aload_n 0, 1) := by decide +kernel
theorem dX12_readsAll_261 : decode cX12_readsAll 261 = .ok (.iconst 1, 1) := by decide +kernel
theorem dX12_readsAll_262 : decode cX12_readsAll 262 = .ok (.invokevirtual 321, 3) := by decide +kernel
theorem dX12_readsAll_265 : decode cX12_readsAll 265 = .ok (.goto 8, 3) := by decide +kernel
theorem dX12_readsAll_268 : decode cX12_readsAll 268 = .ok (.aload_n 0, 1) := by decide +kernel
theorem dX12_readsAll_269 : decode cX12_readsAll 269 = .ok (.iconst 1, 1) := by decide +kernel
theorem dX12_readsAll_270 : decode cX12_readsAll 270 = .ok (.invokevirtual 190, 3) := by decide +kernel
theorem dX12_readsAll_273 : decode cX12_readsAll 273 = .ok (.istore_n 1, 1) := by decide +kernel
theorem dX12_readsAll_274 : decode cX12_readsAll 274 = .ok (.iload_n 1, 1) := by decide +kernel
theorem dX12_readsAll_275 : decode cX12_readsAll 275 = .ok (.ifCond .ne 5, 3) := by decide +kernel
theorem dX12_readsAll_278 : decode cX12_readsAll 278 = .ok (.iconst 0, 1) := by decide +kernel
theorem dX12_readsAll_279 : decode cX12_readsAll 279 = .ok (.ireturn, 1) := by decide +kernel
theorem dX12_readsAll_280 : decode cX12_readsAll 280 = .ok (.goto (-171), 3) := by decide +kernel
theorem dX12_readsAll_283 : decode cX12_readsAll 283 = .ok (.iconst 1, 1) := by decide +kernel
theorem dX12_readsAll_284 : decode cX12_readsAll 284 = .ok (.ireturn, 1) := by decide +kernel
def g_X12_readsAll_24 (t0 : Nat) (k2 : Int32 → zH → Option (Bool × zH)) (x1 : Int32) (s0 : Int32) (s1 : Int32) (h : zH) : Option (Bool × zH) := zgu (zin s1 8) <| zlet (zpi h (zR t0 10) (zx s1) s0) fun h_9 => k2 (x1 + 1) h_9
def g_X12_readsAll_273 (t0 : Nat) (k109 : zH → Option (Bool × zH)) (s0 : Int32) (h : zH) : Option (Bool × zH) := if s0 = 0 then (some (false, h)) else (k109 h)
def g_X12_readsAll_109 (t0 : Nat)  : Nat → zH → Option (Bool × zH)
  | 0, _ => none
  | n + 1, h => if (h.1 t0 6) = 0 then (some (true, h)) else ((g_X12_isWord h t0 232608281).bind fun v_19 => if (zb v_19) = 0 then ((g_X12_isWord h t0 110424740).bind fun v_21 => if (zb v_21) = 0 then ((g_X12_isWord h t0 161370).bind fun v_23 => if (zb v_23) = 0 then ((g_X12_isWord h t0 1503).bind fun v_25 => if (zb v_25) = 0 then ((g_X12_isWord h t0 82408).bind fun v_27 => if (zb v_27) = 0 then ((g_X12_isWord h t0 400375).bind fun v_29 => if (zb v_29) = 0 then ((g_X12_isWord h t0 4085956).bind fun v_31 => if (zb v_31) = 0 then ((g_X12_isWord h t0 2690893).bind fun v_33 => if (zb v_33) = 0 then ((g_X12_fails h t0 1).bind fun v_35 => g_X12_readsAll_273 t0 (g_X12_readsAll_109 t0 n) (zb v_35.1) v_35.2) else ((g_X12_readsLaw h t0 1).bind fun v_36 => g_X12_readsAll_273 t0 (g_X12_readsAll_109 t0 n) (zb v_36.1) v_36.2)) else ((g_X12_readsLaw h t0 0).bind fun v_37 => g_X12_readsAll_273 t0 (g_X12_readsAll_109 t0 n) (zb v_37.1) v_37.2)) else ((g_X12_readsWhich h t0 3 11263 13596964).bind fun v_38 => g_X12_readsAll_273 t0 (g_X12_readsAll_109 t0 n) (zb v_38.1) v_38.2)) else ((g_X12_readsWhich h t0 2 388609 6409157).bind fun v_39 => g_X12_readsAll_273 t0 (g_X12_readsAll_109 t0 n) (zb v_39.1) v_39.2)) else ((g_X12_readsBar h t0).bind fun v_40 => g_X12_readsAll_273 t0 (g_X12_readsAll_109 t0 n) (zb v_40.1) v_40.2)) else ((g_X12_readsHeir h t0).bind fun v_41 => g_X12_readsAll_273 t0 (g_X12_readsAll_109 t0 n) (zb v_41.1) v_41.2)) else ((g_X12_readsGrudge h t0).bind fun v_42 => g_X12_readsAll_273 t0 (g_X12_readsAll_109 t0 n) (zb v_42.1) v_42.2)) else ((g_X12_readsPerson h t0).bind fun v_43 => g_X12_readsAll_273 t0 (g_X12_readsAll_109 t0 n) (zb v_43.1) v_43.2))
def g_X12_readsAll_64 (t0 : Nat)  : Nat → Int32 → zH → Option (Bool × zH)
  | 0, _, _ => none
  | n + 1, x1, h => if 4 ≤ x1 then (zlet (zpi h t0 22 0) fun h_11 => zlet (zpi h_11 t0 21 1000) fun h_12 => (g_X12_begins h_12 t0).bind fun v_13 => g_X12_readsAll_109 t0 zfu v_13) else (zgu (zin x1 4) <| zlet (zpi h (zR t0 18) (zx x1) 1000) fun h_15 => zgu (zin x1 4) <| zlet (zpi h_15 (zR t0 19) (zx x1) 1000) fun h_17 => g_X12_readsAll_64 t0 n (x1 + 1) h_17)
def g_X12_readsAll_33 (t0 : Nat)  : Nat → Int32 → zH → Option (Bool × zH)
  | 0, _, _ => none
  | n + 1, x1, h => if 49 ≤ x1 then (g_X12_readsAll_64 t0 zfu 2 h) else (zgu (zin x1 49) <| zlet (zpi h (zR t0 17) (zx x1) (vp_nar .boolean 0)) fun h_5 => zgu (zin (49 + x1) 98) <| zlet (zpi h_5 (zR t0 16) (zx (49 + x1)) 0) fun h_7 => g_X12_readsAll_33 t0 n (x1 + 1) h_7)
def g_X12_readsAll_2 (t0 : Nat)  : Nat → Int32 → zH → Option (Bool × zH)
  | 0, _, _ => none
  | n + 1, x1, h => if 8 ≤ x1 then (g_X12_readsAll_33 t0 zfu 0 h) else (if x1 = 5 then (g_X12_readsAll_24 t0 (g_X12_readsAll_2 t0 n) x1 7 x1 h) else (g_X12_readsAll_24 t0 (g_X12_readsAll_2 t0 n) x1 0 x1 h))
def g_X12_readsAll (h : zH) (t0 : Nat) : Option (Bool × zH) := g_X12_readsAll_2 t0 zfu 4 h
set_option maxRecDepth 100000 in
set_option maxHeartbeats 4000000 in
theorem b_X12_readsAll_24 {K : zK} {G : zG} (hK : zC K G cX12_readsAll RX12 2 5 111 (some .boolean)) {t0 : Nat} (ht0 : zT t0 = (11, 0)) {r : Bool × zH} (hE : zE K G (some (.int (zb r.1))) r.2) {k2 : Int32 → zH → Option (Bool × zH)} (hk2 : ∀ (x1 : Int32) (h : zH), k2 x1 h = some r → zW K G 2 2 [(0, .ref (G.2.2.2 t0)), (1, .int x1)] [] h) (x1 : Int32) (s0 : Int32) (s1 : Int32) (h : zH) (hg : g_X12_readsAll_24 t0 k2 x1 s0 s1 h = some r) : zW K G 2 24 [(0, .ref (G.2.2.2 t0)), (1, .int x1)] [.int s0, .int s1, .ref (G.2.2.2 (zR t0 10))] h := by
  rw [g_X12_readsAll_24] at hg
  obtain ⟨c_8, hg⟩ := zgu_some hg
  obtain ⟨h_9, eh_9, hg⟩ := zlet_some hg
  exact z_iast (pc := 24) hK (zt_11_10 ht0) c_8 dX12_readsAll_24 (z_nameH eh_9 (z_iinc (pc := 25) hK 1 (lv' := [(1, .int (x1 + 1)), (0, .ref (G.2.2.2 t0))]) dX12_readsAll_25 rfl (zc_n1 _) (by decide) rfl (z_goto (pc := 28) hK 2 dX12_readsAll_28 (by decide) (zsub (lv' := [(0, .ref (G.2.2.2 t0)), (1, .int (x1 + 1))]) [1, 0] rfl (hk2 (x1 + 1) h_9 hg)))))
set_option maxRecDepth 100000 in
set_option maxHeartbeats 4000000 in
theorem b_X12_readsAll_273 {K : zK} {G : zG} (hK : zC K G cX12_readsAll RX12 2 5 111 (some .boolean)) {t0 : Nat} (ht0 : zT t0 = (11, 0)) {r : Bool × zH} (hE : zE K G (some (.int (zb r.1))) r.2) {k109 : zH → Option (Bool × zH)} (hk109 : ∀ (h : zH), k109 h = some r → zW K G 2 109 [(0, .ref (G.2.2.2 t0))] [] h) (s0 : Int32) (h : zH) (hg : g_X12_readsAll_273 t0 k109 s0 h = some r) : zW K G 2 273 [(0, .ref (G.2.2.2 t0))] [.int s0] h := by
  rw [g_X12_readsAll_273] at hg
  refine z_istore_n (pc := 273) hK (lv' := [(1, .int s0), (0, .ref (G.2.2.2 t0))]) dX12_readsAll_273 (by decide) rfl (z_iload_n (pc := 274) hK 0 dX12_readsAll_274 rfl (z_if_ne (pc := 275) hK 280 dX12_readsAll_275 (by decide) (fun c_44 => ?_) (fun c_44 => ?_)))
  · rw [if_neg c_44] at hg
    exact z_goto (pc := 280) hK 109 dX12_readsAll_280 (by decide) (zsub (lv' := [(0, .ref (G.2.2.2 t0))]) [1] rfl (hk109 h hg))
  · rw [if_pos c_44] at hg
    exact z_iconst (pc := 278) hK dX12_readsAll_278 zc_i0 (z_zretE (pc := 279) hK rfl hE hg dX12_readsAll_279)
set_option maxRecDepth 100000 in
set_option maxHeartbeats 4000000 in
theorem b_X12_readsAll_109 {K : zK} {G : zG} (hK : zC K G cX12_readsAll RX12 2 5 111 (some .boolean)) {t0 : Nat} (ht0 : zT t0 = (11, 0)) {r : Bool × zH} (hE : zE K G (some (.int (zb r.1))) r.2) : ∀ (n : Nat) (h : zH), g_X12_readsAll_109 t0 n h = some r → zW K G 2 109 [(0, .ref (G.2.2.2 t0))] [] h := by
  intro n
  induction n with
  | zero => intro h hg; exact nomatch (show none = some r from hg)
  | succ n ih =>
    intro h hg
    rw [g_X12_readsAll_109] at hg
    refine z_aload_n (pc := 109) hK 0 dX12_readsAll_109 rfl (z_getI (pc := 110) hK f_X12_151_11 ht0 dX12_readsAll_110 (z_if_eq (pc := 113) hK 283 dX12_readsAll_113 (by decide) (fun c_18 => ?_) (fun c_18 => ?_)))
    · rw [if_pos c_18] at hg
      exact z_iconst (pc := 283) hK dX12_readsAll_283 zc_i1 (z_zretE (pc := 284) hK rfl hE hg dX12_readsAll_284)
    · rw [if_neg c_18] at hg
      obtain ⟨v_19, qv_19, hg⟩ := zbind_some hg
      refine z_aload_n (pc := 116) hK 0 dX12_readsAll_116 rfl (z_ldc2 (pc := 117) hK q_1484 dX12_readsAll_117 (z_callVi (pc := 120) hK [.long 232608281] (m_X12_isWord (zC_D hK) ht0 qv_19) sv_X12_isWord q_1485 ht0 rfl [] rfl (Nat.le_of_ble_eq_true rfl) ⟨by decide, by decide⟩ dX12_readsAll_120 (z_if_eq (pc := 123) hK 133 dX12_readsAll_123 (by decide) (fun c_20 => ?_) (fun c_20 => ?_))))
      · rw [if_pos c_20] at hg
        obtain ⟨v_21, qv_21, hg⟩ := zbind_some hg
        refine z_aload_n (pc := 133) hK 0 dX12_readsAll_133 rfl (z_ldc2 (pc := 134) hK q_1503 dX12_readsAll_134 (z_callVi (pc := 137) hK [.long 110424740] (m_X12_isWord (zC_D hK) ht0 qv_21) sv_X12_isWord q_1485 ht0 rfl [] rfl (Nat.le_of_ble_eq_true rfl) ⟨by decide, by decide⟩ dX12_readsAll_137 (z_if_eq (pc := 140) hK 150 dX12_readsAll_140 (by decide) (fun c_22 => ?_) (fun c_22 => ?_))))
        · rw [if_pos c_22] at hg
          obtain ⟨v_23, qv_23, hg⟩ := zbind_some hg
          refine z_aload_n (pc := 150) hK 0 dX12_readsAll_150 rfl (z_ldc2 (pc := 151) hK q_1504 dX12_readsAll_151 (z_callVi (pc := 154) hK [.long 161370] (m_X12_isWord (zC_D hK) ht0 qv_23) sv_X12_isWord q_1485 ht0 rfl [] rfl (Nat.le_of_ble_eq_true rfl) ⟨by decide, by decide⟩ dX12_readsAll_154 (z_if_eq (pc := 157) hK 167 dX12_readsAll_157 (by decide) (fun c_24 => ?_) (fun c_24 => ?_))))
          · rw [if_pos c_24] at hg
            obtain ⟨v_25, qv_25, hg⟩ := zbind_some hg
            refine z_aload_n (pc := 167) hK 0 dX12_readsAll_167 rfl (z_ldc2 (pc := 168) hK q_1505 dX12_readsAll_168 (z_callVi (pc := 171) hK [.long 1503] (m_X12_isWord (zC_D hK) ht0 qv_25) sv_X12_isWord q_1485 ht0 rfl [] rfl (Nat.le_of_ble_eq_true rfl) ⟨by decide, by decide⟩ dX12_readsAll_171 (z_if_eq (pc := 174) hK 184 dX12_readsAll_174 (by decide) (fun c_26 => ?_) (fun c_26 => ?_))))
            · rw [if_pos c_26] at hg
              obtain ⟨v_27, qv_27, hg⟩ := zbind_some hg
              refine z_aload_n (pc := 184) hK 0 dX12_readsAll_184 rfl (z_ldc2 (pc := 185) hK q_1506 dX12_readsAll_185 (z_callVi (pc := 188) hK [.long 82408] (m_X12_isWord (zC_D hK) ht0 qv_27) sv_X12_isWord q_1485 ht0 rfl [] rfl (Nat.le_of_ble_eq_true rfl) ⟨by decide, by decide⟩ dX12_readsAll_188 (z_if_eq (pc := 191) hK 208 dX12_readsAll_191 (by decide) (fun c_28 => ?_) (fun c_28 => ?_))))
              · rw [if_pos c_28] at hg
                obtain ⟨v_29, qv_29, hg⟩ := zbind_some hg
                refine z_aload_n (pc := 208) hK 0 dX12_readsAll_208 rfl (z_ldc2 (pc := 209) hK q_1507 dX12_readsAll_209 (z_callVi (pc := 212) hK [.long 400375] (m_X12_isWord (zC_D hK) ht0 qv_29) sv_X12_isWord q_1485 ht0 rfl [] rfl (Nat.le_of_ble_eq_true rfl) ⟨by decide, by decide⟩ dX12_readsAll_212 (z_if_eq (pc := 215) hK 232 dX12_readsAll_215 (by decide) (fun c_30 => ?_) (fun c_30 => ?_))))
                · rw [if_pos c_30] at hg
                  obtain ⟨v_31, qv_31, hg⟩ := zbind_some hg
                  refine z_aload_n (pc := 232) hK 0 dX12_readsAll_232 rfl (z_ldc2 (pc := 233) hK q_1508 dX12_readsAll_233 (z_callVi (pc := 236) hK [.long 4085956] (m_X12_isWord (zC_D hK) ht0 qv_31) sv_X12_isWord q_1485 ht0 rfl [] rfl (Nat.le_of_ble_eq_true rfl) ⟨by decide, by decide⟩ dX12_readsAll_236 (z_if_eq (pc := 239) hK 250 dX12_readsAll_239 (by decide) (fun c_32 => ?_) (fun c_32 => ?_))))
                  · rw [if_pos c_32] at hg
                    obtain ⟨v_33, qv_33, hg⟩ := zbind_some hg
                    refine z_aload_n (pc := 250) hK 0 dX12_readsAll_250 rfl (z_ldc2 (pc := 251) hK q_1509 dX12_readsAll_251 (z_callVi (pc := 254) hK [.long 2690893] (m_X12_isWord (zC_D hK) ht0 qv_33) sv_X12_isWord q_1485 ht0 rfl [] rfl (Nat.le_of_ble_eq_true rfl) ⟨by decide, by decide⟩ dX12_readsAll_254 (z_if_eq (pc := 257) hK 268 dX12_readsAll_257 (by decide) (fun c_34 => ?_) (fun c_34 => ?_))))
                    · rw [if_pos c_34] at hg
                      obtain ⟨v_35, qv_35, hg⟩ := zbind_some hg
                      exact z_aload_n (pc := 268) hK 0 dX12_readsAll_268 rfl (z_iconst (pc := 269) hK dX12_readsAll_269 zc_i1 (z_callVi (pc := 270) hK [.int 1] (m_X12_fails (zC_D hK) ht0 qv_35) sv_X12_fails q_1493 ht0 rfl [] rfl (Nat.le_of_ble_eq_true rfl) ⟨by decide, by decide⟩ dX12_readsAll_270 (zsub (lv' := [(0, .ref (G.2.2.2 t0))]) [0] rfl (b_X12_readsAll_273 hK ht0 hE ih (zb v_35.1) v_35.2 hg))))
                    · rw [if_neg c_34] at hg
                      obtain ⟨v_36, qv_36, hg⟩ := zbind_some hg
                      exact z_aload_n (pc := 260) hK 0 dX12_readsAll_260 rfl (z_iconst (pc := 261) hK dX12_readsAll_261 zc_i1 (z_callVi (pc := 262) hK [.int 1] (m_X12_readsLaw (zC_D hK) ht0 qv_36) sv_X12_readsLaw q_1577 ht0 rfl [] rfl (Nat.le_of_ble_eq_true rfl) ⟨by decide, by decide⟩ dX12_readsAll_262 (z_goto (pc := 265) hK 273 dX12_readsAll_265 (by decide) (zsub (lv' := [(0, .ref (G.2.2.2 t0))]) [0] rfl (b_X12_readsAll_273 hK ht0 hE ih (zb v_36.1) v_36.2 hg)))))
                  · rw [if_neg c_32] at hg
                    obtain ⟨v_37, qv_37, hg⟩ := zbind_some hg
                    exact z_aload_n (pc := 242) hK 0 dX12_readsAll_242 rfl (z_iconst (pc := 243) hK dX12_readsAll_243 zc_i0 (z_callVi (pc := 244) hK [.int 0] (m_X12_readsLaw (zC_D hK) ht0 qv_37) sv_X12_readsLaw q_1577 ht0 rfl [] rfl (Nat.le_of_ble_eq_true rfl) ⟨by decide, by decide⟩ dX12_readsAll_244 (z_goto (pc := 247) hK 273 dX12_readsAll_247 (by decide) (zsub (lv' := [(0, .ref (G.2.2.2 t0))]) [0] rfl (b_X12_readsAll_273 hK ht0 hE ih (zb v_37.1) v_37.2 hg)))))
                · rw [if_neg c_30] at hg
                  obtain ⟨v_38, qv_38, hg⟩ := zbind_some hg
                  exact z_aload_n (pc := 218) hK 0 dX12_readsAll_218 rfl (z_iconst (pc := 219) hK dX12_readsAll_219 zc_i3 (z_ldc2 (pc := 220) hK q_1517 dX12_readsAll_220 (z_ldc2 (pc := 223) hK q_1518 dX12_readsAll_223 (z_callVi (pc := 226) hK [.int 3, .long 11263, .long 13596964] (m_X12_readsWhich (zC_D hK) ht0 qv_38) sv_X12_readsWhich q_1573 ht0 rfl [] rfl (Nat.le_of_ble_eq_true rfl) ⟨by decide, by decide⟩ dX12_readsAll_226 (z_goto (pc := 229) hK 273 dX12_readsAll_229 (by decide) (zsub (lv' := [(0, .ref (G.2.2.2 t0))]) [0] rfl (b_X12_readsAll_273 hK ht0 hE ih (zb v_38.1) v_38.2 hg)))))))
              · rw [if_neg c_28] at hg
                obtain ⟨v_39, qv_39, hg⟩ := zbind_some hg
                exact z_aload_n (pc := 194) hK 0 dX12_readsAll_194 rfl (z_iconst (pc := 195) hK dX12_readsAll_195 zc_i2 (z_ldc2 (pc := 196) hK q_1515 dX12_readsAll_196 (z_ldc2 (pc := 199) hK q_1516 dX12_readsAll_199 (z_callVi (pc := 202) hK [.int 2, .long 388609, .long 6409157] (m_X12_readsWhich (zC_D hK) ht0 qv_39) sv_X12_readsWhich q_1573 ht0 rfl [] rfl (Nat.le_of_ble_eq_true rfl) ⟨by decide, by decide⟩ dX12_readsAll_202 (z_goto (pc := 205) hK 273 dX12_readsAll_205 (by decide) (zsub (lv' := [(0, .ref (G.2.2.2 t0))]) [0] rfl (b_X12_readsAll_273 hK ht0 hE ih (zb v_39.1) v_39.2 hg)))))))
            · rw [if_neg c_26] at hg
              obtain ⟨v_40, qv_40, hg⟩ := zbind_some hg
              exact z_aload_n (pc := 177) hK 0 dX12_readsAll_177 rfl (z_callVi (pc := 178) hK [] (m_X12_readsBar (zC_D hK) ht0 qv_40) sv_X12_readsBar q_1565 ht0 rfl [] rfl (Nat.le_of_ble_eq_true rfl) ⟨by decide, by decide⟩ dX12_readsAll_178 (z_goto (pc := 181) hK 273 dX12_readsAll_181 (by decide) (zsub (lv' := [(0, .ref (G.2.2.2 t0))]) [0] rfl (b_X12_readsAll_273 hK ht0 hE ih (zb v_40.1) v_40.2 hg))))
          · rw [if_neg c_24] at hg
            obtain ⟨v_41, qv_41, hg⟩ := zbind_some hg
            exact z_aload_n (pc := 160) hK 0 dX12_readsAll_160 rfl (z_callVi (pc := 161) hK [] (m_X12_readsHeir (zC_D hK) ht0 qv_41) sv_X12_readsHeir q_1561 ht0 rfl [] rfl (Nat.le_of_ble_eq_true rfl) ⟨by decide, by decide⟩ dX12_readsAll_161 (z_goto (pc := 164) hK 273 dX12_readsAll_164 (by decide) (zsub (lv' := [(0, .ref (G.2.2.2 t0))]) [0] rfl (b_X12_readsAll_273 hK ht0 hE ih (zb v_41.1) v_41.2 hg))))
        · rw [if_neg c_22] at hg
          obtain ⟨v_42, qv_42, hg⟩ := zbind_some hg
          exact z_aload_n (pc := 143) hK 0 dX12_readsAll_143 rfl (z_callVi (pc := 144) hK [] (m_X12_readsGrudge (zC_D hK) ht0 qv_42) sv_X12_readsGrudge q_1549 ht0 rfl [] rfl (Nat.le_of_ble_eq_true rfl) ⟨by decide, by decide⟩ dX12_readsAll_144 (z_goto (pc := 147) hK 273 dX12_readsAll_147 (by decide) (zsub (lv' := [(0, .ref (G.2.2.2 t0))]) [0] rfl (b_X12_readsAll_273 hK ht0 hE ih (zb v_42.1) v_42.2 hg))))
      · rw [if_neg c_20] at hg
        obtain ⟨v_43, qv_43, hg⟩ := zbind_some hg
        exact z_aload_n (pc := 126) hK 0 dX12_readsAll_126 rfl (z_callVi (pc := 127) hK [] (m_X12_readsPerson (zC_D hK) ht0 qv_43) sv_X12_readsPerson q_1489 ht0 rfl [] rfl (Nat.le_of_ble_eq_true rfl) ⟨by decide, by decide⟩ dX12_readsAll_127 (z_goto (pc := 130) hK 273 dX12_readsAll_130 (by decide) (zsub (lv' := [(0, .ref (G.2.2.2 t0))]) [0] rfl (b_X12_readsAll_273 hK ht0 hE ih (zb v_43.1) v_43.2 hg))))
set_option maxRecDepth 100000 in
set_option maxHeartbeats 4000000 in
theorem b_X12_readsAll_64 {K : zK} {G : zG} (hK : zC K G cX12_readsAll RX12 2 5 111 (some .boolean)) {t0 : Nat} (ht0 : zT t0 = (11, 0)) {r : Bool × zH} (hE : zE K G (some (.int (zb r.1))) r.2) : ∀ (n : Nat) (x1 : Int32) (h : zH), g_X12_readsAll_64 t0 n x1 h = some r → zW K G 2 64 [(0, .ref (G.2.2.2 t0)), (1, .int x1)] [] h := by
  intro n
  induction n with
  | zero => intro x1 h hg; exact nomatch (show none = some r from hg)
  | succ n ih =>
    intro x1 h hg
    rw [g_X12_readsAll_64] at hg
    refine z_iload_n (pc := 64) hK 1 dX12_readsAll_64 rfl (z_iconst (pc := 65) hK dX12_readsAll_65 zc_i4 (z_icmp_ge (pc := 66) hK 93 dX12_readsAll_66 (by decide) (fun c_10 => ?_) (fun c_10 => ?_)))
    · rw [if_pos c_10] at hg
      obtain ⟨h_11, eh_11, hg⟩ := zlet_some hg
      obtain ⟨h_12, eh_12, hg⟩ := zlet_some hg
      obtain ⟨v_13, qv_13, hg⟩ := zbind_some hg
      exact z_aload_n (pc := 93) hK 0 dX12_readsAll_93 rfl (z_iconst (pc := 94) hK dX12_readsAll_94 zc_i0 (z_putI (pc := 95) hK f_X12_293_11 fp_11_22 ht0 dX12_readsAll_95 (z_nameH eh_11 (z_aload_n (pc := 98) hK 0 dX12_readsAll_98 rfl (z_sipush (pc := 99) hK dX12_readsAll_99 zc_s1000 (z_putI (pc := 102) hK f_X12_165_11 fp_11_21 ht0 dX12_readsAll_102 (z_nameH eh_12 (z_aload_n (pc := 105) hK 0 dX12_readsAll_105 rfl (z_callVv (pc := 106) hK [] (m_X12_begins (zC_D hK) ht0 qv_13) sv_X12_begins q_1470 ht0 rfl [] rfl (Nat.le_of_ble_eq_true rfl) ⟨by decide, by decide⟩ dX12_readsAll_106 (zsub (lv' := [(0, .ref (G.2.2.2 t0))]) [0] rfl (b_X12_readsAll_109 hK ht0 hE zfu v_13 hg)))))))))))
    · rw [if_neg c_10] at hg
      obtain ⟨c_14, hg⟩ := zgu_some hg
      obtain ⟨h_15, eh_15, hg⟩ := zlet_some hg
      obtain ⟨c_16, hg⟩ := zgu_some hg
      obtain ⟨h_17, eh_17, hg⟩ := zlet_some hg
      exact z_aload_n (pc := 69) hK 0 dX12_readsAll_69 rfl (z_getR (pc := 70) hK f_X12_39_11 ht0 dX12_readsAll_70 (z_iload_n (pc := 73) hK 1 dX12_readsAll_73 rfl (z_sipush (pc := 74) hK dX12_readsAll_74 zc_s1000 (z_iast (pc := 77) hK (zt_11_18 ht0) c_14 dX12_readsAll_77 (z_nameH eh_15 (z_aload_n (pc := 78) hK 0 dX12_readsAll_78 rfl (z_getR (pc := 79) hK f_X12_42_11 ht0 dX12_readsAll_79 (z_iload_n (pc := 82) hK 1 dX12_readsAll_82 rfl (z_sipush (pc := 83) hK dX12_readsAll_83 zc_s1000 (z_iast (pc := 86) hK (zt_11_19 ht0) c_16 dX12_readsAll_86 (z_nameH eh_17 (z_iinc (pc := 87) hK 1 (lv' := [(1, .int (x1 + 1)), (0, .ref (G.2.2.2 t0))]) dX12_readsAll_87 rfl (zc_n1 _) (by decide) rfl (z_goto (pc := 90) hK 64 dX12_readsAll_90 (by decide) (zsub (lv' := [(0, .ref (G.2.2.2 t0)), (1, .int (x1 + 1))]) [1, 0] rfl (ih (x1 + 1) h_17 hg)))))))))))))))
set_option maxRecDepth 100000 in
set_option maxHeartbeats 4000000 in
theorem b_X12_readsAll_33 {K : zK} {G : zG} (hK : zC K G cX12_readsAll RX12 2 5 111 (some .boolean)) {t0 : Nat} (ht0 : zT t0 = (11, 0)) {r : Bool × zH} (hE : zE K G (some (.int (zb r.1))) r.2) : ∀ (n : Nat) (x1 : Int32) (h : zH), g_X12_readsAll_33 t0 n x1 h = some r → zW K G 2 33 [(0, .ref (G.2.2.2 t0)), (1, .int x1)] [] h := by
  intro n
  induction n with
  | zero => intro x1 h hg; exact nomatch (show none = some r from hg)
  | succ n ih =>
    intro x1 h hg
    rw [g_X12_readsAll_33] at hg
    refine z_iload_n (pc := 33) hK 1 dX12_readsAll_33 rfl (z_bipush (pc := 34) hK dX12_readsAll_34 zc_b49 (z_icmp_ge (pc := 36) hK 62 dX12_readsAll_36 (by decide) (fun c_3 => ?_) (fun c_3 => ?_)))
    · rw [if_pos c_3] at hg
      exact z_iconst (pc := 62) hK dX12_readsAll_62 zc_i2 (z_istore_n (pc := 63) hK (lv' := [(1, .int 2), (0, .ref (G.2.2.2 t0))]) dX12_readsAll_63 (by decide) rfl (zsub (lv' := [(0, .ref (G.2.2.2 t0)), (1, .int 2)]) [1, 0] rfl (b_X12_readsAll_64 hK ht0 hE zfu 2 h hg)))
    · rw [if_neg c_3] at hg
      obtain ⟨c_4, hg⟩ := zgu_some hg
      obtain ⟨h_5, eh_5, hg⟩ := zlet_some hg
      obtain ⟨c_6, hg⟩ := zgu_some hg
      obtain ⟨h_7, eh_7, hg⟩ := zlet_some hg
      exact z_aload_n (pc := 39) hK 0 dX12_readsAll_39 rfl (z_getR (pc := 40) hK f_X12_35_11 ht0 dX12_readsAll_40 (z_iload_n (pc := 43) hK 1 dX12_readsAll_43 rfl (z_iconst (pc := 44) hK dX12_readsAll_44 zc_i0 (z_zast (pc := 45) hK (zt_11_17 ht0) c_4 dX12_readsAll_45 (z_nameH eh_5 (z_aload_n (pc := 46) hK 0 dX12_readsAll_46 rfl (z_getR (pc := 47) hK f_X12_32_11 ht0 dX12_readsAll_47 (z_bipush (pc := 50) hK dX12_readsAll_50 zc_b49 (z_iload_n (pc := 52) hK 1 dX12_readsAll_52 rfl (z_iadd (pc := 53) hK dX12_readsAll_53 (z_iconst (pc := 54) hK dX12_readsAll_54 zc_i0 (z_iast (pc := 55) hK (zt_11_16 ht0) c_6 dX12_readsAll_55 (z_nameH eh_7 (z_iinc (pc := 56) hK 1 (lv' := [(1, .int (x1 + 1)), (0, .ref (G.2.2.2 t0))]) dX12_readsAll_56 rfl (zc_n1 _) (by decide) rfl (z_goto (pc := 59) hK 33 dX12_readsAll_59 (by decide) (zsub (lv' := [(0, .ref (G.2.2.2 t0)), (1, .int (x1 + 1))]) [1, 0] rfl (ih (x1 + 1) h_7 hg)))))))))))))))))
set_option maxRecDepth 100000 in
set_option maxHeartbeats 4000000 in
theorem b_X12_readsAll_2 {K : zK} {G : zG} (hK : zC K G cX12_readsAll RX12 2 5 111 (some .boolean)) {t0 : Nat} (ht0 : zT t0 = (11, 0)) {r : Bool × zH} (hE : zE K G (some (.int (zb r.1))) r.2) : ∀ (n : Nat) (x1 : Int32) (h : zH), g_X12_readsAll_2 t0 n x1 h = some r → zW K G 2 2 [(0, .ref (G.2.2.2 t0)), (1, .int x1)] [] h := by
  intro n
  induction n with
  | zero => intro x1 h hg; exact nomatch (show none = some r from hg)
  | succ n ih =>
    intro x1 h hg
    rw [g_X12_readsAll_2] at hg
    refine z_iload_n (pc := 2) hK 1 dX12_readsAll_2 rfl (z_bipush (pc := 3) hK dX12_readsAll_3 zc_b8 (z_icmp_ge (pc := 5) hK 31 dX12_readsAll_5 (by decide) (fun c_1 => ?_) (fun c_1 => ?_)))
    · rw [if_pos c_1] at hg
      exact z_iconst (pc := 31) hK dX12_readsAll_31 zc_i0 (z_istore_n (pc := 32) hK (lv' := [(1, .int 0), (0, .ref (G.2.2.2 t0))]) dX12_readsAll_32 (by decide) rfl (zsub (lv' := [(0, .ref (G.2.2.2 t0)), (1, .int 0)]) [1, 0] rfl (b_X12_readsAll_33 hK ht0 hE zfu 0 h hg)))
    · rw [if_neg c_1] at hg
      refine z_aload_n (pc := 8) hK 0 dX12_readsAll_8 rfl (z_getR (pc := 9) hK f_X12_13_11 ht0 dX12_readsAll_9 (z_iload_n (pc := 12) hK 1 dX12_readsAll_12 rfl (z_iload_n (pc := 13) hK 1 dX12_readsAll_13 rfl (z_iconst (pc := 14) hK dX12_readsAll_14 zc_i5 (z_icmp_ne (pc := 15) hK 23 dX12_readsAll_15 (by decide) (fun c_2 => ?_) (fun c_2 => ?_))))))
      · rw [if_neg c_2] at hg
        exact z_iconst (pc := 23) hK dX12_readsAll_23 zc_i0 (zsub (lv' := [(0, .ref (G.2.2.2 t0)), (1, .int x1)]) [0, 1] rfl (b_X12_readsAll_24 hK ht0 hE ih x1 0 x1 h hg))
      · rw [if_pos c_2] at hg
        exact z_bipush (pc := 18) hK dX12_readsAll_18 zc_b7 (z_goto (pc := 20) hK 24 dX12_readsAll_20 (by decide) (zsub (lv' := [(0, .ref (G.2.2.2 t0)), (1, .int x1)]) [0, 1] rfl (b_X12_readsAll_24 hK ht0 hE ih x1 7 x1 h hg)))
set_option maxRecDepth 100000 in
set_option maxHeartbeats 4000000 in
theorem b_X12_readsAll {K : zK} {G : zG} (hK : zC K G cX12_readsAll RX12 2 5 111 (some .boolean)) {h : zH} {t0 : Nat} (ht0 : zT t0 = (11, 0)) {r : Bool × zH} (hE : zE K G (some (.int (zb r.1))) r.2) (hg : g_X12_readsAll h t0 = some r) : zW K G 2 0 [(0, .ref (G.2.2.2 t0))] [] h := by
  rw [g_X12_readsAll] at hg
  exact z_iconst (pc := 0) hK dX12_readsAll_0 zc_i4 (z_istore_n (pc := 1) hK (lv' := [(1, .int 4), (0, .ref (G.2.2.2 t0))]) dX12_readsAll_1 (by decide) rfl (zsub (lv' := [(0, .ref (G.2.2.2 t0)), (1, .int 4)]) [1, 0] rfl (b_X12_readsAll_2 hK ht0 hE zfu 4 h hg)))
theorem m_X12_readsAll {l : Launch} {G : zG} (hG : zD G) {h : zH} {t0 : Nat} (ht0 : zT t0 = (11, 0)) {r : Bool × zH} (hg : g_X12_readsAll h t0 = some r) : zM l G yX12_readsAll cX12_readsAll 2 (some .boolean) 5 111 [.ref (G.2.2.2 t0)] h (some (.int (zb r.1))) r.2 :=
  zM_of hG pn_X12 (Nat.le_of_ble_eq_true rfl) (fun K _ hK hE => b_X12_readsAll hK ht0 hE hg)
