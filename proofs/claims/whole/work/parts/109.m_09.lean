theorem dX11_mark_0 : decode cX11_mark 0 = .ok (.iload_n 1, 1) := by decide +kernel
theorem dX11_mark_1 : decode cX11_mark 1 = .ok (.ifCond .lt 8, 3) := by decide +kernel
theorem dX11_mark_4 : decode cX11_mark 4 = .ok (.iload_n 1, 1) := by decide +kernel
theorem dX11_mark_5 : decode cX11_mark 5 = .ok (.iconst 4, 1) := by decide +kernel
theorem dX11_mark_6 : decode cX11_mark 6 = .ok (.if_icmp .lt 5, 3) := by decide +kernel
theorem dX11_mark_9 : decode cX11_mark 9 = .ok (.iconst 0, 1) := by decide +kernel
theorem dX11_mark_10 : decode cX11_mark 10 = .ok (.ireturn, 1) := by decide +kernel
theorem dX11_mark_11 : decode cX11_mark 11 = .ok (.iload_n 2, 1) := by decide +kernel
theorem dX11_mark_12 : decode cX11_mark 12 = .ok (.ifCond .ne 28, 3) := by decide +kernel
theorem dX11_mark_15 : decode cX11_mark 15 = .ok (.aload_n 0, 1) := by decide +kernel
theorem dX11_mark_16 : decode cX11_mark 16 = .ok (.getfield 58, 3) := by decide +kernel
theorem dX11_mark_19 : decode cX11_mark 19 = .ok (.iload_n 1, 1) := by decide +kernel
theorem dX11_mark_20 : decode cX11_mark 20 = .ok (.aaload, 1) := by decide +kernel
theorem dX11_mark_21 : decode cX11_mark 21 = .ok (.aload_n 0, 1) := by decide +kernel
theorem dX11_mark_22 : decode cX11_mark 22 = .ok (.getfield 54, 3) := by decide +kernel
theorem dX11_mark_25 : decode cX11_mark 25 = .ok (.invokevirtual 277, 3) := by decide +kernel
theorem dX11_mark_28 : decode cX11_mark 28 = .ok (.aload_n 0, 1) := by decide +kernel
theorem dX11_mark_29 : decode cX11_mark 29 = .ok (.getfield 58, 3) := by decide +kernel
theorem dX11_mark_32 : decode cX11_mark 32 = .ok (.iload_n 1, 1) := by decide +kernel
theorem dX11_mark_33 : decode cX11_mark 33 = .ok (.aaload, 1) := by decide +kernel
theorem dX11_mark_34 : decode cX11_mark 34 = .ok (.iconst 1, 1) := by decide +kernel
theorem dX11_mark_35 : decode cX11_mark 35 = .ok (.putfield 94, 3) := by decide +kernel
theorem dX11_mark_38 : decode cX11_mark 38 = .ok (.iconst 1, 1) := by decide +kernel
theorem dX11_mark_39 : decode cX11_mark 39 = .ok (.ireturn, 1) := by decide +kernel
theorem dX11_mark_40 : decode cX11_mark 40 = .ok (.aload_n 0, 1) := by decide +kernel
theorem dX11_mark_41 : decode cX11_mark 41 = .ok (.getfield 58, 3) := by decide +kernel
theorem dX11_mark_44 : decode cX11_mark 44 = .ok (.iload_n 1, 1) := by decide +kernel
theorem dX11_mark_45 : decode cX11_mark 45 = .ok (.aaload, 1) := by decide +kernel
theorem dX11_mark_46 : decode cX11_mark 46 = .ok (.getfield 94, 3) := by decide +kernel
theorem dX11_mark_49 : decode cX11_mark 49 = .ok (.ifCond .ne 5, 3) := by decide +kernel
theorem dX11_mark_52 : decode cX11_mark 52 = .ok (.iconst 0, 1) := by decide +kernel
theorem dX11_mark_53 : decode cX11_mark 53 = .ok (.ireturn, 1) := by decide +kernel
theorem dX11_mark_54 : decode cX11_mark 54 = .ok (.aload_n 0, 1) := by decide +kernel
theorem dX11_mark_55 : decode cX11_mark 55 = .ok (.getfield 54, 3) := by decide +kernel
theorem dX11_mark_58 : decode cX11_mark 58 = .ok (.aload_n 0, 1) := by decide +kernel
theorem dX11_mark_59 : decode cX11_mark 59 = .ok (.getfield 58, 3) := by decide +kernel
theorem dX11_mark_62 : decode cX11_mark 62 = .ok (.iload_n 1, 1) := by decide +kernel
theorem dX11_mark_63 : decode cX11_mark 63 = .ok (.aaload, 1) := by decide +kernel
theorem dX11_mark_64 : decode cX11_mark 64 = .ok (.invokevirtual 277, 3) := by decide +kernel
theorem dX11_mark_67 : decode cX11_mark 67 = .ok (.aload_n 0, 1) := by decide +kernel
theorem dX11_mark_68 : decode cX11_mark 68 = .ok (.getfield 65, 3) := by decide +kernel
theorem dX11_mark_71 : decode cX11_mark 71 = .ok (.invokevirtual 91, 3) := by decide +kernel
theorem dX11_mark_74 : decode cX11_mark 74 = .ok (.iconst 1, 1) := by decide +kernel
theorem dX11_mark_75 : decode cX11_mark 75 = .ok (.ireturn, 1) := by decide +kernel
def g_X11_mark (h : zH) (t0 : Nat) (x1 : Int32) (x2 : Int32) : Option (Bool × zH) := if x1 < 0 then (some (false, h)) else (if x1 < 4 then (if x2 = 0 then (zgu (zin x1 4) <| (g_X2_become h (zR (zR t0 7) (zx x1)) (zR t0 6)).bind fun v_10 => zgu (zin x1 4) <| zlet (zpi v_10 (zR (zR t0 7) (zx x1)) 4 1) fun h_12 => some (true, h_12)) else (zgu (zin x1 4) <| if (h.1 (zR (zR t0 7) (zx x1)) 4) = 0 then (some (false, h)) else (zgu (zin x1 4) <| (g_X2_become h (zR t0 6) (zR (zR t0 7) (zx x1))).bind fun v_7 => (g_X3_forget v_7 (zR t0 8)).bind fun v_8 => some (true, v_8)))) else (some (false, h)))
set_option maxRecDepth 100000 in
set_option maxHeartbeats 4000000 in
theorem b_X11_mark {K : zK} {G : zG} (hK : zC K G cX11_mark RX11 3 3 60 (some .boolean)) {h : zH} {t0 : Nat} {x1 : Int32} {x2 : Int32} (ht0 : zT t0 = (10, 0)) {r : Bool × zH} (hE : zE K G (some (.int (zb r.1))) r.2) (hg : g_X11_mark h t0 x1 x2 = some r) : zW K G 3 0 [(0, .ref (G.2.2.2 t0)), (1, .int x1), (2, .int x2)] [] h := by
  rw [g_X11_mark] at hg
  refine z_iload_n (pc := 0) hK 1 dX11_mark_0 rfl (z_if_lt (pc := 1) hK 9 dX11_mark_1 (by decide) (fun c_1 => ?_) (fun c_1 => ?_))
  · rw [if_pos c_1] at hg
    exact z_iconst (pc := 9) hK dX11_mark_9 zc_i0 (z_zretE (pc := 10) hK rfl hE hg dX11_mark_10)
  · rw [if_neg c_1] at hg
    refine z_iload_n (pc := 4) hK 1 dX11_mark_4 rfl (z_iconst (pc := 5) hK dX11_mark_5 zc_i4 (z_icmp_lt (pc := 6) hK 11 dX11_mark_6 (by decide) (fun c_2 => ?_) (fun c_2 => ?_)))
    · rw [if_pos c_2] at hg
      refine z_iload_n (pc := 11) hK 2 dX11_mark_11 rfl (z_if_ne (pc := 12) hK 40 dX11_mark_12 (by decide) (fun c_3 => ?_) (fun c_3 => ?_))
      · rw [if_neg c_3] at hg
        obtain ⟨c_4, hg⟩ := zgu_some hg
        refine z_aload_n (pc := 40) hK 0 dX11_mark_40 rfl (z_getR (pc := 41) hK f_X11_58_10 ht0 dX11_mark_41 (z_iload_n (pc := 44) hK 1 dX11_mark_44 rfl (z_aaldM (pc := 45) hK (zt_10_7 ht0) c_4 dX11_mark_45 (z_getI (pc := 46) hK f_X11_94_2 (zt_25 (zt_10_7 ht0) (zin_lt c_4)) dX11_mark_46 (z_if_ne (pc := 49) hK 54 dX11_mark_49 (by decide) (fun c_5 => ?_) (fun c_5 => ?_))))))
        · rw [if_neg c_5] at hg
          obtain ⟨c_6, hg⟩ := zgu_some hg
          obtain ⟨v_7, qv_7, hg⟩ := zbind_some hg
          obtain ⟨v_8, qv_8, hg⟩ := zbind_some hg
          exact z_aload_n (pc := 54) hK 0 dX11_mark_54 rfl (z_getR (pc := 55) hK f_X11_54_10 ht0 dX11_mark_55 (z_aload_n (pc := 58) hK 0 dX11_mark_58 rfl (z_getR (pc := 59) hK f_X11_58_10 ht0 dX11_mark_59 (z_iload_n (pc := 62) hK 1 dX11_mark_62 rfl (z_aaldM (pc := 63) hK (zt_10_7 ht0) c_6 dX11_mark_63 (z_callVv (pc := 64) hK [.ref (G.2.2.2 (zR (zR t0 7) (zx x1)))] (m_X2_become (zC_D hK) (zt_10_6 ht0) (zt_25 (zt_10_7 ht0) (zin_lt c_6)) qv_7) sv_X2_become q_1190 (zt_10_6 ht0) rfl [] rfl (Nat.le_of_ble_eq_true rfl) ⟨by decide, by decide⟩ dX11_mark_64 (z_aload_n (pc := 67) hK 0 dX11_mark_67 rfl (z_getR (pc := 68) hK f_X11_65_10 ht0 dX11_mark_68 (z_callVv (pc := 71) hK [] (m_X3_forget (zC_D hK) (zt_10_8 ht0) qv_8) sv_X3_forget q_854 (zt_10_8 ht0) rfl [] rfl (Nat.le_of_ble_eq_true rfl) ⟨by decide, by decide⟩ dX11_mark_71 (z_iconst (pc := 74) hK dX11_mark_74 zc_i1 (z_zretE (pc := 75) hK rfl hE hg dX11_mark_75)))))))))))
        · rw [if_pos c_5] at hg
          exact z_iconst (pc := 52) hK dX11_mark_52 zc_i0 (z_zretE (pc := 53) hK rfl hE hg dX11_mark_53)
      · rw [if_pos c_3] at hg
        obtain ⟨c_9, hg⟩ := zgu_some hg
        obtain ⟨v_10, qv_10, hg⟩ := zbind_some hg
        obtain ⟨c_11, hg⟩ := zgu_some hg
        obtain ⟨h_12, eh_12, hg⟩ := zlet_some hg
        exact z_aload_n (pc := 15) hK 0 dX11_mark_15 rfl (z_getR (pc := 16) hK f_X11_58_10 ht0 dX11_mark_16 (z_iload_n (pc := 19) hK 1 dX11_mark_19 rfl (z_aaldM (pc := 20) hK (zt_10_7 ht0) c_9 dX11_mark_20 (z_aload_n (pc := 21) hK 0 dX11_mark_21 rfl (z_getR (pc := 22) hK f_X11_54_10 ht0 dX11_mark_22 (z_callVv (pc := 25) hK [.ref (G.2.2.2 (zR t0 6))] (m_X2_become (zC_D hK) (zt_25 (zt_10_7 ht0) (zin_lt c_9)) (zt_10_6 ht0) qv_10) sv_X2_become q_1190 (zt_25 (zt_10_7 ht0) (zin_lt c_9)) rfl [] rfl (Nat.le_of_ble_eq_true rfl) ⟨by decide, by decide⟩ dX11_mark_25 (z_aload_n (pc := 28) hK 0 dX11_mark_28 rfl (z_getR (pc := 29) hK f_X11_58_10 ht0 dX11_mark_29 (z_iload_n (pc := 32) hK 1 dX11_mark_32 rfl (z_aaldM (pc := 33) hK (zt_10_7 ht0) c_11 dX11_mark_33 (z_iconst (pc := 34) hK dX11_mark_34 zc_i1 (z_putZ (pc := 35) hK f_X11_94_2 fp_2_4 rfl (zt_25 (zt_10_7 ht0) (zin_lt c_11)) dX11_mark_35 (z_nameH eh_12 (z_iconst (pc := 38) hK dX11_mark_38 zc_i1 (z_zretE (pc := 39) hK rfl hE hg dX11_mark_39)))))))))))))))
    · rw [if_neg c_2] at hg
      exact z_iconst (pc := 9) hK dX11_mark_9 zc_i0 (z_zretE (pc := 10) hK rfl hE hg dX11_mark_10)
theorem m_X11_mark {l : Launch} {G : zG} (hG : zD G) {h : zH} {t0 : Nat} {x1 : Int32} {x2 : Int32} (ht0 : zT t0 = (10, 0)) {r : Bool × zH} (hg : g_X11_mark h t0 x1 x2 = some r) : zM l G yX11_mark cX11_mark 3 (some .boolean) 3 60 [.ref (G.2.2.2 t0), .int x1, .int x2] h (some (.int (zb r.1))) r.2 :=
  zM_of hG pn_X11 (Nat.le_of_ble_eq_true rfl) (fun K _ hK hE => b_X11_mark hK ht0 hE hg)
theorem dX11_count_0 : decode cX11_count 0 = .ok (.iload_n 1, 1) := by decide +kernel
theorem dX11_count_1 : decode cX11_count 1 = .ok (.tableswitch 205 0 12 #[67, 75, 83, 99, 115, 126, 137, 148, 159, 170, 181, 189, 197], 67) := by decide +kernel
theorem dX11_count_68 : decode cX11_count 68 = .ok (.aload_n 0, 1) := by decide +kernel
theorem dX11_count_69 : decode cX11_count 69 = .ok (.getfield 19, 3) := by decide +kernel
theorem dX11_count_72 : decode cX11_count 72 = .ok (.getfield 216, 3) := by decide +kernel
theorem dX11_count_75 : decode cX11_count 75 = .ok (.ireturn, 1) := by decide +kernel
theorem dX11_count_76 : decode cX11_count 76 = .ok (.aload_n 0, 1) := by decide +kernel
theorem dX11_count_77 : decode cX11_count 77 = .ok (.getfield 19, 3) := by decide +kernel
theorem dX11_count_80 : decode cX11_count 80 = .ok (.getfield 183, 3) := by decide +kernel
theorem dX11_count_83 : decode cX11_count 83 = .ok (.ireturn, 1) := by decide +kernel
theorem dX11_count_84 : decode cX11_count 84 = .ok (.aload_n 0, 1) := by decide +kernel
theorem dX11_count_85 : decode cX11_count 85 = .ok (.getfield 19, 3) := by decide +kernel
theorem dX11_count_88 : decode cX11_count 88 = .ok (.getfield 280, 3) := by decide +kernel
theorem dX11_count_91 : decode cX11_count 91 = .ok (.ifCond .eq 7, 3) := by decide +kernel
theorem dX11_count_94 : decode cX11_count 94 = .ok (.iconst 1, 1) := by decide +kernel
theorem dX11_count_95 : decode cX11_count 95 = .ok (.goto 4, 3) := by decide +kernel
theorem dX11_count_98 : decode cX11_count 98 = .ok (.iconst 0, 1) := by decide +kernel
theorem dX11_count_99 : decode cX11_count 99 = .ok (.ireturn, 1) := by decide +kernel
theorem dX11_count_100 : decode cX11_count 100 = .ok (.aload_n 0, 1) := by decide +kernel
theorem dX11_count_101 : decode cX11_count 101 = .ok (.getfield 19, 3) := by decide +kernel
theorem dX11_count_104 : decode cX11_count 104 = .ok (.getfield 283, 3) := by decide +kernel
theorem dX11_count_107 : decode cX11_count 107 = .ok (.ifCond .eq 7, 3) := by decide +kernel
theorem dX11_count_110 : decode cX11_count 110 = .ok (.iconst 1, 1) := by decide +kernel
theorem dX11_count_111 : decode cX11_count 111 = .ok (.goto 4, 3) := by decide +kernel
theorem dX11_count_114 : decode cX11_count 114 = .ok (.iconst 0, 1) := by decide +kernel
theorem dX11_count_115 : decode cX11_count 115 = .ok (.ireturn, 1) := by decide +kernel
theorem dX11_count_116 : decode cX11_count 116 = .ok (.aload_n 0, 1) := by decide +kernel
theorem dX11_count_117 : decode cX11_count 117 = .ok (.getfield 54, 3) := by decide +kernel
theorem dX11_count_120 : decode cX11_count 120 = .ok (.getfield 123, 3) := by decide +kernel
theorem dX11_count_123 : decode cX11_count 123 = .ok (.getfield 286, 3) := by decide +kernel
theorem dX11_count_126 : decode cX11_count 126 = .ok (.ireturn, 1) := by decide +kernel
theorem dX11_count_127 : decode cX11_count 127 = .ok (.aload_n 0, 1) := by decide +kernel
theorem dX11_count_128 : decode cX11_count 128 = .ok (.getfield 54, 3) := by decide +kernel
theorem dX11_count_131 : decode cX11_count 131 = .ok (.getfield 123, 3) := by decide +kernel
theorem dX11_count_134 : decode cX11_count 134 = .ok (.getfield 274, 3) := by decide +kernel
theorem dX11_count_137 : decode cX11_count 137 = .ok (.ireturn, 1) := by decide +kernel
theorem dX11_count_138 : decode cX11_count 138 = .ok (.aload_n 0, 1) := by decide +kernel
theorem dX11_count_139 : decode cX11_count 139 = .ok (.getfield 54, 3) := by decide +kernel
theorem dX11_count_142 : decode cX11_count 142 = .ok (.getfield 123, 3) := by decide +kernel
theorem dX11_count_145 : decode cX11_count 145 = .ok (.invokevirtual 289, 3) := by decide +kernel
theorem dX11_count_148 : decode cX11_count 148 = .ok (.ireturn, 1) := by decide +kernel
theorem dX11_count_149 : decode cX11_count 149 = .ok (.aload_n 0, 1) := by decide +kernel
theorem dX11_count_150 : decode cX11_count 150 = .ok (.getfield 54, 3) := by decide +kernel
theorem dX11_count_153 : decode cX11_count 153 = .ok (.getfield 123, 3) := by decide +kernel
theorem dX11_count_156 : decode cX11_count 156 = .ok (.invokevirtual 292, 3) := by decide +kernel
theorem dX11_count_159 : decode cX11_count 159 = .ok (.ireturn, 1) := by decide +kernel
theorem dX11_count_160 : decode cX11_count 160 = .ok (.aload_n 0, 1) := by decide +kernel
theorem dX11_count_161 : decode cX11_count 161 = .ok (.getfield 54, 3) := by decide +kernel
theorem dX11_count_164 : decode cX11_count 164 = .ok (.getfield 123, 3) := by decide +kernel
theorem dX11_count_167 : decode cX11_count 167 = .ok (.invokevirtual 295, 3) := by decide +kernel
theorem dX11_count_170 : decode cX11_count 170 = .ok (.ireturn, 1) := by decide +kernel
theorem dX11_count_171 : decode cX11_count 171 = .ok (.aload_n 0, 1) := by decide +kernel
theorem dX11_count_172 : decode cX11_count 172 = .ok (.getfield 54, 3) := by decide +kernel
theorem dX11_count_175 : decode cX11_count 175 = .ok (.getfield 99, 3) := by decide +kernel
theorem dX11_count_178 : decode cX11_count 178 = .ok (.getfield 195, 3) := by decide +kernel
theorem dX11_count_181 : decode cX11_count 181 = .ok (.ireturn, 1) := by decide +kernel
theorem dX11_count_182 : decode cX11_count 182 = .ok (.aload_n 0, 1) := by decide +kernel
theorem dX11_count_183 : decode cX11_count 183 = .ok (.getfield 54, 3) := by decide +kernel
theorem dX11_count_186 : decode cX11_count 186 = .ok (.getfield 225, 3) := by decide +kernel
theorem dX11_count_189 : decode cX11_count 189 = .ok (.ireturn, 1) := by decide +kernel
theorem dX11_count_190 : decode cX11_count 190 = .ok (.aload_n 0, 1) := by decide +kernel
theorem dX11_count_191 : decode cX11_count 191 = .ok (.getfield 65, 3) := by decide +kernel
theorem dX11_count_194 : decode cX11_count 194 = .ok (.getfield 298, 3) := by decide +kernel
theorem dX11_count_197 : decode cX11_count 197 = .ok (.ireturn, 1) := by decide +kernel
theorem dX11_count_198 : decode cX11_count 198 = .ok (.aload_n 0, 1) := by decide +kernel
theorem dX11_count_199 : decode cX11_count 199 = .ok (.getfield 10, 3) := by decide +kernel
theorem dX11_count_202 : decode cX11_count 202 = .ok (.getfield 73, 3) := by decide +kernel
theorem dX11_count_205 : decode cX11_count 205 = .ok (.ireturn, 1) := by decide +kernel
theorem dX11_count_206 : decode cX11_count 206 = .ok (.iconst (-1), 1) := by decide +kernel
theorem dX11_count_207 : decode cX11_count 207 = .ok (.ireturn, 1) := by decide +kernel
def g_X11_count (h : zH) (t0 : Nat) (x1 : Int32) : Option Int32 := zlet (x1) fun v_1 => if v_1 = 0 then (some (h.1 (zR t0 1) 7)) else if v_1 = 1 then (some (h.1 (zR t0 1) 8)) else if v_1 = 2 then (if (h.1 (zR t0 1) 9) = 0 then (some 0) else (some 1)) else if v_1 = 3 then (if (h.1 (zR t0 1) 10) = 0 then (some 0) else (some 1)) else if v_1 = 4 then (some (h.1 (zR (zR t0 6) 0) 5)) else if v_1 = 5 then (some (h.1 (zR (zR t0 6) 0) 4)) else if v_1 = 6 then ((g_X7_votesLeft h (zR (zR t0 6) 0)).bind fun v_11 => some v_11) else if v_1 = 7 then ((g_X7_allGrudges h (zR (zR t0 6) 0)).bind fun v_13 => some v_13) else if v_1 = 8 then ((g_X7_allCasts h (zR (zR t0 6) 0)).bind fun v_15 => some v_15) else if v_1 = 9 then (some (h.1 (zR (zR t0 6) 1) 1)) else if v_1 = 10 then (some (h.1 (zR t0 6) 2)) else if v_1 = 11 then (some (h.1 (zR t0 8) 2)) else if v_1 = 12 then (some (h.1 (zR t0 0) 1)) else some (-1)
set_option maxRecDepth 100000 in
set_option maxHeartbeats 4000000 in
theorem b_X11_count {K : zK} {G : zG} (hK : zC K G cX11_count RX11 2 3 66 (some .int)) {h : zH} {t0 : Nat} {x1 : Int32} (ht0 : zT t0 = (10, 0)) {r : Int32} (hE : zE K G (some (.int r)) h) (hg : g_X11_count h t0 x1 = some r) : zW K G 2 0 [(0, .ref (G.2.2.2 t0)), (1, .int x1)] [] h := by
  rw [g_X11_count] at hg
  obtain ⟨v_1, ev_1, hg⟩ := zlet_some hg
  refine z_iload_n (pc := 0) hK 1 dX11_count_0 rfl (z_nameI ev_1 ?_)
  by_cases c_2 : v_1 = 0
  · rw [if_pos c_2] at hg
    refine z_tableIn (pc := 1) hK 68 dX11_count_1 (by rw [c_2]; decide) (by rw [c_2]; decide) (by rw [c_2] <;> rfl) (by decide) ?_
    exact z_aload_n (pc := 68) hK 0 dX11_count_68 rfl (z_getR (pc := 69) hK f_X11_19_10 ht0 dX11_count_69 (z_getI (pc := 72) hK f_X11_216_4 (zt_10_1 ht0) dX11_count_72 (z_iretP (pc := 75) hK hE hg dX11_count_75)))
  rw [if_neg c_2] at hg
  by_cases c_3 : v_1 = 1
  · rw [if_pos c_3] at hg
    refine z_tableIn (pc := 1) hK 76 dX11_count_1 (by rw [c_3]; decide) (by rw [c_3]; decide) (by rw [c_3] <;> rfl) (by decide) ?_
    exact z_aload_n (pc := 76) hK 0 dX11_count_76 rfl (z_getR (pc := 77) hK f_X11_19_10 ht0 dX11_count_77 (z_getI (pc := 80) hK f_X11_183_4 (zt_10_1 ht0) dX11_count_80 (z_iretP (pc := 83) hK hE hg dX11_count_83)))
  rw [if_neg c_3] at hg
  by_cases c_4 : v_1 = 2
  · rw [if_pos c_4] at hg
    refine z_tableIn (pc := 1) hK 84 dX11_count_1 (by rw [c_4]; decide) (by rw [c_4]; decide) (by rw [c_4] <;> rfl) (by decide) ?_
    refine z_aload_n (pc := 84) hK 0 dX11_count_84 rfl (z_getR (pc := 85) hK f_X11_19_10 ht0 dX11_count_85 (z_getI (pc := 88) hK f_X11_280_4 (zt_10_1 ht0) dX11_count_88 (z_if_eq (pc := 91) hK 98 dX11_count_91 (by decide) (fun c_5 => ?_) (fun c_5 => ?_))))
    · rw [if_pos c_5] at hg
      exact z_iconst (pc := 98) hK dX11_count_98 zc_i0 (z_iretP (pc := 99) hK hE hg dX11_count_99)
    · rw [if_neg c_5] at hg
      exact z_iconst (pc := 94) hK dX11_count_94 zc_i1 (z_goto (pc := 95) hK 99 dX11_count_95 (by decide) (z_iretP (pc := 99) hK hE hg dX11_count_99))
  rw [if_neg c_4] at hg
  by_cases c_6 : v_1 = 3
  · rw [if_pos c_6] at hg
    refine z_tableIn (pc := 1) hK 100 dX11_count_1 (by rw [c_6]; decide) (by rw [c_6]; decide) (by rw [c_6] <;> rfl) (by decide) ?_
    refine z_aload_n (pc := 100) hK 0 dX11_count_100 rfl (z_getR (pc := 101) hK f_X11_19_10 ht0 dX11_count_101 (z_getI (pc := 104) hK f_X11_283_4 (zt_10_1 ht0) dX11_count_104 (z_if_eq (pc := 107) hK 114 dX11_count_107 (by decide) (fun c_7 => ?_) (fun c_7 => ?_))))
    · rw [if_pos c_7] at hg
      exact z_iconst (pc := 114) hK dX11_count_114 zc_i0 (z_iretP (pc := 115) hK hE hg dX11_count_115)
    · rw [if_neg c_7] at hg
      exact z_iconst (pc := 110) hK dX11_count_110 zc_i1 (z_goto (pc := 111) hK 115 dX11_count_111 (by decide) (z_iretP (pc := 115) hK hE hg dX11_count_115))
  rw [if_neg c_6] at hg
  by_cases c_8 : v_1 = 4
  · rw [if_pos c_8] at hg
    refine z_tableIn (pc := 1) hK 116 dX11_count_1 (by rw [c_8]; decide) (by rw [c_8]; decide) (by rw [c_8] <;> rfl) (by decide) ?_
    exact z_aload_n (pc := 116) hK 0 dX11_count_116 rfl (z_getR (pc := 117) hK f_X11_54_10 ht0 dX11_count_117 (z_getR (pc := 120) hK f_X11_123_2 (zt_10_6 ht0) dX11_count_120 (z_getI (pc := 123) hK f_X11_286_6 (zt_2_0 (zt_10_6 ht0)) dX11_count_123 (z_iretP (pc := 126) hK hE hg dX11_count_126))))
  rw [if_neg c_8] at hg
  by_cases c_9 : v_1 = 5
  · rw [if_pos c_9] at hg
    refine z_tableIn (pc := 1) hK 127 dX11_count_1 (by rw [c_9]; decide) (by rw [c_9]; decide) (by rw [c_9] <;> rfl) (by decide) ?_
    exact z_aload_n (pc := 127) hK 0 dX11_count_127 rfl (z_getR (pc := 128) hK f_X11_54_10 ht0 dX11_count_128 (z_getR (pc := 131) hK f_X11_123_2 (zt_10_6 ht0) dX11_count_131 (z_getI (pc := 134) hK f_X11_274_6 (zt_2_0 (zt_10_6 ht0)) dX11_count_134 (z_iretP (pc := 137) hK hE hg dX11_count_137))))
  rw [if_neg c_9] at hg
  by_cases c_10 : v_1 = 6
  · rw [if_pos c_10] at hg
    refine z_tableIn (pc := 1) hK 138 dX11_count_1 (by rw [c_10]; decide) (by rw [c_10]; decide) (by rw [c_10] <;> rfl) (by decide) ?_
    obtain ⟨v_11, qv_11, hg⟩ := zbind_some hg
    exact z_aload_n (pc := 138) hK 0 dX11_count_138 rfl (z_getR (pc := 139) hK f_X11_54_10 ht0 dX11_count_139 (z_getR (pc := 142) hK f_X11_123_2 (zt_10_6 ht0) dX11_count_142 (z_callVi (pc := 145) hK [] (m_X7_votesLeft (zC_D hK) (zt_2_0 (zt_10_6 ht0)) qv_11) sv_X7_votesLeft q_1200 (zt_2_0 (zt_10_6 ht0)) rfl [] rfl (Nat.le_of_ble_eq_true rfl) ⟨by decide, by decide⟩ dX11_count_145 (z_iretP (pc := 148) hK hE hg dX11_count_148))))
  rw [if_neg c_10] at hg
  by_cases c_12 : v_1 = 7
  · rw [if_pos c_12] at hg
    refine z_tableIn (pc := 1) hK 149 dX11_count_1 (by rw [c_12]; decide) (by rw [c_12]; decide) (by rw [c_12] <;> rfl) (by decide) ?_
    obtain ⟨v_13, qv_13, hg⟩ := zbind_some hg
    exact z_aload_n (pc := 149) hK 0 dX11_count_149 rfl (z_getR (pc := 150) hK f_X11_54_10 ht0 dX11_count_150 (z_getR (pc := 153) hK f_X11_123_2 (zt_10_6 ht0) dX11_count_153 (z_callVi (pc := 156) hK [] (m_X7_allGrudges (zC_D hK) (zt_2_0 (zt_10_6 ht0)) qv_13) sv_X7_allGrudges q_1201 (zt_2_0 (zt_10_6 ht0)) rfl [] rfl (Nat.le_of_ble_eq_true rfl) ⟨by decide, by decide⟩ dX11_count_156 (z_iretP (pc := 159) hK hE hg dX11_count_159))))
  rw [if_neg c_12] at hg
  by_cases c_14 : v_1 = 8
  · rw [if_pos c_14] at hg
    refine z_tableIn (pc := 1) hK 160 dX11_count_1 (by rw [c_14]; decide) (by rw [c_14]; decide) (by rw [c_14] <;> rfl) (by decide) ?_
    obtain ⟨v_15, qv_15, hg⟩ := zbind_some hg
    exact z_aload_n (pc := 160) hK 0 dX11_count_160 rfl (z_getR (pc := 161) hK f_X11_54_10 ht0 dX11_count_161 (z_getR (pc := 164) hK f_X11_123_2 (zt_10_6 ht0) dX11_count_164 (z_callVi (pc := 167) hK [] (m_X7_allCasts (zC_D hK) (zt_2_0 (zt_10_6 ht0)) qv_15) sv_X7_allCasts q_1205 (zt_2_0 (zt_10_6 ht0)) rfl [] rfl (Nat.le_of_ble_eq_true rfl) ⟨by decide, by decide⟩ dX11_count_167 (z_iretP (pc := 170) hK hE hg dX11_count_170))))
  rw [if_neg c_14] at hg
  by_cases c_16 : v_1 = 9
  · rw [if_pos c_16] at hg
    refine z_tableIn (pc := 1) hK 171 dX11_count_1 (by rw [c_16]; decide) (by rw [c_16]; decide) (by rw [c_16] <;> rfl) (by decide) ?_
    exact z_aload_n (pc := 171) hK 0 dX11_count_171 rfl (z_getR (pc := 172) hK f_X11_54_10 ht0 dX11_count_172 (z_getR (pc := 175) hK f_X11_99_2 (zt_10_6 ht0) dX11_count_175 (z_getI (pc := 178) hK f_X11_195_8 (zt_2_1 (zt_10_6 ht0)) dX11_count_178 (z_iretP (pc := 181) hK hE hg dX11_count_181))))
  rw [if_neg c_16] at hg
  by_cases c_17 : v_1 = 10
  · rw [if_pos c_17] at hg
    refine z_tableIn (pc := 1) hK 182 dX11_count_1 (by rw [c_17]; decide) (by rw [c_17]; decide) (by rw [c_17] <;> rfl) (by decide) ?_
    exact z_aload_n (pc := 182) hK 0 dX11_count_182 rfl (z_getR (pc := 183) hK f_X11_54_10 ht0 dX11_count_183 (z_getI (pc := 186) hK f_X11_225_2 (zt_10_6 ht0) dX11_count_186 (z_iretP (pc := 189) hK hE hg dX11_count_189)))
  rw [if_neg c_17] at hg
  by_cases c_18 : v_1 = 11
  · rw [if_pos c_18] at hg
    refine z_tableIn (pc := 1) hK 190 dX11_count_1 (by rw [c_18]; decide) (by rw [c_18]; decide) (by rw [c_18] <;> rfl) (by decide) ?_
    exact z_aload_n (pc := 190) hK 0 dX11_count_190 rfl (z_getR (pc := 191) hK f_X11_65_10 ht0 dX11_count_191 (z_getI (pc := 194) hK f_X11_298_3 (zt_10_8 ht0) dX11_count_194 (z_iretP (pc := 197) hK hE hg dX11_count_197)))
  rw [if_neg c_18] at hg
  by_cases c_19 : v_1 = 12
  · rw [if_pos c_19] at hg
    refine z_tableIn (pc := 1) hK 198 dX11_count_1 (by rw [c_19]; decide) (by rw [c_19]; decide) (by rw [c_19] <;> rfl) (by decide) ?_
    exact z_aload_n (pc := 198) hK 0 dX11_count_198 rfl (z_getR (pc := 199) hK f_X11_10_10 ht0 dX11_count_199 (z_getI (pc := 202) hK f_X11_73_7 (zt_10_0 ht0) dX11_count_202 (z_iretP (pc := 205) hK hE hg dX11_count_205)))
  rw [if_neg c_19] at hg
  refine z_tableOut (pc := 1) hK 206 dX11_count_1 (by have zc_2 := zne_k (n := 0) c_2 (by decide); have zc_3 := zne_k (n := 1) c_3 (by decide); have zc_4 := zne_k (n := 2) c_4 (by decide); have zc_6 := zne_k (n := 3) c_6 (by decide); have zc_8 := zne_k (n := 4) c_8 (by decide); have zc_9 := zne_k (n := 5) c_9 (by decide); have zc_10 := zne_k (n := 6) c_10 (by decide); have zc_12 := zne_k (n := 7) c_12 (by decide); have zc_14 := zne_k (n := 8) c_14 (by decide); have zc_16 := zne_k (n := 9) c_16 (by decide); have zc_17 := zne_k (n := 10) c_17 (by decide); have zc_18 := zne_k (n := 11) c_18 (by decide); have zc_19 := zne_k (n := 12) c_19 (by decide); omega) (by decide) ?_
  exact z_iconst (pc := 206) hK dX11_count_206 zc_im1 (z_iretP (pc := 207) hK hE hg dX11_count_207)
theorem m_X11_count {l : Launch} {G : zG} (hG : zD G) {h : zH} {t0 : Nat} {x1 : Int32} (ht0 : zT t0 = (10, 0)) {r : Int32} (hg : g_X11_count h t0 x1 = some r) : zM l G yX11_count cX11_count 2 (some .int) 3 66 [.ref (G.2.2.2 t0), .int x1] h (some (.int r)) h :=
  zM_of hG pn_X11 (Nat.le_of_ble_eq_true rfl) (fun K _ hK hE => b_X11_count hK ht0 hE hg)
theorem dX12_thrown_0 : decode cX12_thrown 0 = .ok (.aload_n 0, 1) := by decide +kernel
theorem dX12_thrown_1 : decode cX12_thrown 1 = .ok (.getfield 126, 3) := by decide +kernel
theorem dX12_thrown_4 : decode cX12_thrown 4 = .ok (.ireturn, 1) := by decide +kernel
def g_X12_thrown (h : zH) (t0 : Nat) : Option Int32 := some (h.1 t0 0)
set_option maxRecDepth 100000 in
set_option maxHeartbeats 4000000 in
theorem b_X12_thrown {K : zK} {G : zG} (hK : zC K G cX12_thrown RX12 1 0 0 (some .int)) {h : zH} {t0 : Nat} (ht0 : zT t0 = (11, 0)) {r : Int32} (hE : zE K G (some (.int r)) h) (hg : g_X12_thrown h t0 = some r) : zW K G 1 0 [(0, .ref (G.2.2.2 t0))] [] h := by
  rw [g_X12_thrown] at hg
  exact z_aload_n (pc := 0) hK 0 dX12_thrown_0 rfl (z_getI (pc := 1) hK f_X12_126_11 ht0 dX12_thrown_1 (z_iretP (pc := 4) hK hE hg dX12_thrown_4))
theorem m_X12_thrown {l : Launch} {G : zG} (hG : zD G) {h : zH} {t0 : Nat} (ht0 : zT t0 = (11, 0)) {r : Int32} (hg : g_X12_thrown h t0 = some r) : zM l G yX12_thrown cX12_thrown 1 (some .int) 0 0 [.ref (G.2.2.2 t0)] h (some (.int r)) h :=
  zM_of hG pn_X12 (Nat.le_of_ble_eq_true rfl) (fun K _ hK hE => b_X12_thrown hK ht0 hE hg)
theorem dX12_within_0 : decode cX12_within 0 = .ok (.iload_n 0, 1) := by decide +kernel
theorem dX12_within_1 : decode cX12_within 1 = .ok (.iload_n 1, 1) := by decide +kernel
theorem dX12_within_2 : decode cX12_within 2 = .ok (.if_icmp .lt 12, 3) := by decide +kernel
theorem dX12_within_5 : decode cX12_within 5 = .ok (.iload_n 0, 1) := by decide +kernel
theorem dX12_within_6 : decode cX12_within 6 = .ok (.iload_n 2, 1) := by decide +kernel
theorem dX12_within_7 : decode cX12_within 7 = .ok (.if_icmp .gt 7, 3) := by decide +kernel
theorem dX12_within_10 : decode cX12_within 10 = .ok (.iconst 1, 1) := by decide +kernel
theorem dX12_within_11 : decode cX12_within 11 = .ok (.goto 4, 3) := by decide +kernel
theorem dX12_within_14 : decode cX12_within 14 = .ok (.iconst 0, 1) := by decide +kernel
theorem dX12_within_15 : decode cX12_within 15 = .ok (.ireturn, 1) := by decide +kernel
def g_X12_within (h : zH) (x0 : Int32) (x1 : Int32) (x2 : Int32) : Option Bool := if x0 < x1 then (some false) else (if x2 < x0 then (some false) else (some true))
set_option maxRecDepth 100000 in
set_option maxHeartbeats 4000000 in
theorem b_X12_within {K : zK} {G : zG} (hK : zC K G cX12_within RX12 3 0 0 (some .boolean)) {h : zH} {x0 : Int32} {x1 : Int32} {x2 : Int32}  {r : Bool} (hE : zE K G (some (.int (zb r))) h) (hg : g_X12_within h x0 x1 x2 = some r) : zW K G 3 0 [(0, .int x0), (1, .int x1), (2, .int x2)] [] h := by
  rw [g_X12_within] at hg
  refine z_iload_n (pc := 0) hK 0 dX12_within_0 rfl (z_iload_n (pc := 1) hK 1 dX12_within_1 rfl (z_icmp_lt (pc := 2) hK 14 dX12_within_2 (by decide) (fun c_1 => ?_) (fun c_1 => ?_)))
  · rw [if_pos c_1] at hg
    exact z_iconst (pc := 14) hK dX12_within_14 zc_i0 (z_zretP (pc := 15) hK rfl hE hg dX12_within_15)
  · rw [if_neg c_1] at hg
    refine z_iload_n (pc := 5) hK 0 dX12_within_5 rfl (z_iload_n (pc := 6) hK 2 dX12_within_6 rfl (z_icmp_gt (pc := 7) hK 14 dX12_within_7 (by decide) (fun c_2 => ?_) (fun c_2 => ?_)))
    · rw [if_pos c_2] at hg
      exact z_iconst (pc := 14) hK dX12_within_14 zc_i0 (z_zretP (pc := 15) hK rfl hE hg dX12_within_15)
    · rw [if_neg c_2] at hg
      exact z_iconst (pc := 10) hK dX12_within_10 zc_i1 (z_goto (pc := 11) hK 15 dX12_within_11 (by decide) (z_zretP (pc := 15) hK rfl hE hg dX12_within_15))
theorem m_X12_within {l : Launch} {G : zG} (hG : zD G) {h : zH} {x0 : Int32} {x1 : Int32} {x2 : Int32}  {r : Bool} (hg : g_X12_within h x0 x1 x2 = some r) : zM l G yX12_within cX12_within 3 (some .boolean) 0 0 [.int x0, .int x1, .int x2] h (some (.int (zb r))) h :=
  zM_of hG pn_X12 (Nat.le_of_ble_eq_true rfl) (fun K _ hK hE => b_X12_within hK  hE hg)
theorem dX12_between_0 : decode cX12_between 0 = .ok (.iload_n 0, 1) := by decide +kernel
theorem dX12_between_1 : decode cX12_between 1 = .ok (.iload_n 1, 1) := by decide +kernel
theorem dX12_between_2 : decode cX12_between 2 = .ok (.if_icmp .ge 7, 3) := by decide +kernel
theorem dX12_between_5 : decode cX12_between 5 = .ok (.iload_n 1, 1) := by decide +kernel
theorem dX12_between_6 : decode cX12_between 6 = .ok (.goto 13, 3) := by decide +kernel
theorem dX12_between_9 : decode cX12_between 9 = .ok (.iload_n 0, 1) := by decide +kernel
theorem dX12_between_10 : decode cX12_between 10 = .ok (.iload_n 2, 1) := by decide +kernel
theorem dX12_between_11 : decode cX12_between 11 = .ok (.if_icmp .le 7, 3) := by decide +kernel
theorem dX12_between_14 : decode cX12_between 14 = .ok (.iload_n 2, 1) := by decide +kernel
theorem dX12_between_15 : decode cX12_between 15 = .ok (.goto 4, 3) := by decide +kernel
theorem dX12_between_18 : decode cX12_between 18 = .ok (.iload_n 0, 1) := by decide +kernel
theorem dX12_between_19 : decode cX12_between 19 = .ok (.ireturn, 1) := by decide +kernel
def g_X12_between (h : zH) (x0 : Int32) (x1 : Int32) (x2 : Int32) : Option Int32 := if x1 ≤ x0 then (if x0 ≤ x2 then (some x0) else (some x2)) else (some x1)
set_option maxRecDepth 100000 in
set_option maxHeartbeats 4000000 in
theorem b_X12_between {K : zK} {G : zG} (hK : zC K G cX12_between RX12 3 0 0 (some .int)) {h : zH} {x0 : Int32} {x1 : Int32} {x2 : Int32}  {r : Int32} (hE : zE K G (some (.int r)) h) (hg : g_X12_between h x0 x1 x2 = some r) : zW K G 3 0 [(0, .int x0), (1, .int x1), (2, .int x2)] [] h := by
  rw [g_X12_between] at hg
  refine z_iload_n (pc := 0) hK 0 dX12_between_0 rfl (z_iload_n (pc := 1) hK 1 dX12_between_1 rfl (z_icmp_ge (pc := 2) hK 9 dX12_between_2 (by decide) (fun c_1 => ?_) (fun c_1 => ?_)))
  · rw [if_pos c_1] at hg
    refine z_iload_n (pc := 9) hK 0 dX12_between_9 rfl (z_iload_n (pc := 10) hK 2 dX12_between_10 rfl (z_icmp_le (pc := 11) hK 18 dX12_between_11 (by decide) (fun c_2 => ?_) (fun c_2 => ?_)))
    · rw [if_pos c_2] at hg
      exact z_iload_n (pc := 18) hK 0 dX12_between_18 rfl (z_iretP (pc := 19) hK hE hg dX12_between_19)
    · rw [if_neg c_2] at hg
      exact z_iload_n (pc := 14) hK 2 dX12_between_14 rfl (z_goto (pc := 15) hK 19 dX12_between_15 (by decide) (z_iretP (pc := 19) hK hE hg dX12_between_19))
  · rw [if_neg c_1] at hg
    exact z_iload_n (pc := 5) hK 1 dX12_between_5 rfl (z_goto (pc := 6) hK 19 dX12_between_6 (by decide) (z_iretP (pc := 19) hK hE hg dX12_between_19))
theorem m_X12_between {l : Launch} {G : zG} (hG : zD G) {h : zH} {x0 : Int32} {x1 : Int32} {x2 : Int32}  {r : Int32} (hg : g_X12_between h x0 x1 x2 = some r) : zM l G yX12_between cX12_between 3 (some .int) 0 0 [.int x0, .int x1, .int x2] h (some (.int r)) h :=
  zM_of hG pn_X12 (Nat.le_of_ble_eq_true rfl) (fun K _ hK hE => b_X12_between hK  hE hg)
theorem dX12_feed_0 : decode cX12_feed 0 = .ok (.aload_n 0, 1) := by decide +kernel
theorem dX12_feed_1 : decode cX12_feed 1 = .ok (.iconst 0, 1) := by decide +kernel
theorem dX12_feed_2 : decode cX12_feed 2 = .ok (.putfield 126, 3) := by decide +kernel
theorem dX12_feed_5 : decode cX12_feed 5 = .ok (.iconst 0, 1) := by decide +kernel
theorem dX12_feed_6 : decode cX12_feed 6 = .ok (.istore 7, 2) := by decide +kernel
theorem dX12_feed_8 : decode cX12_feed 8 = .ok (.iload 7, 2) := by decide +kernel
theorem dX12_feed_10 : decode cX12_feed 10 = .ok (.bipush 24, 2) := by decide +kernel
theorem dX12_feed_12 : decode cX12_feed 12 = .ok (.if_icmp .ge 108, 3) := by decide +kernel
theorem dX12_feed_15 : decode cX12_feed 15 = .ok (.iload 7, 2) := by decide +kernel
theorem dX12_feed_17 : decode cX12_feed 17 = .ok (.bipush 8, 2) := by decide +kernel
theorem dX12_feed_19 : decode cX12_feed 19 = .ok (.if_icmp .ge 7, 3) := by decide +kernel
theorem dX12_feed_22 : decode cX12_feed 22 = .ok (.lload_n 1, 1) := by decide +kernel
theorem dX12_feed_23 : decode cX12_feed 23 = .ok (.goto 16, 3) := by decide +kernel
theorem dX12_feed_26 : decode cX12_feed 26 = .ok (.iload 7, 2) := by decide +kernel
theorem dX12_feed_28 : decode cX12_feed 28 = .ok (.bipush 16, 2) := by decide +kernel
theorem dX12_feed_30 : decode cX12_feed 30 = .ok (.if_icmp .ge 7, 3) := by decide +kernel
theorem dX12_feed_33 : decode cX12_feed 33 = .ok (.lload_n 3, 1) := by decide +kernel
theorem dX12_feed_34 : decode cX12_feed 34 = .ok (.goto 5, 3) := by decide +kernel
theorem dX12_feed_37 : decode cX12_feed 37 = .ok (.lload 5, 2) := by decide +kernel
theorem dX12_feed_39 : decode cX12_feed 39 = .ok (.lstore 8, 2) := by decide +kernel
theorem dX12_feed_41 : decode cX12_feed 41 = .ok (.lload 8, 2) := by decide +kernel
theorem dX12_feed_43 : decode cX12_feed 43 = .ok (.bipush 56, 2) := by decide +kernel
theorem dX12_feed_45 : decode cX12_feed 45 = .ok (.bipush 8, 2) := by decide +kernel
theorem dX12_feed_47 : decode cX12_feed 47 = .ok (.iload 7, 2) := by decide +kernel
theorem dX12_feed_49 : decode cX12_feed 49 = .ok (.bipush 7, 2) := by decide +kernel
theorem dX12_feed_51 : decode cX12_feed 51 = .ok (.iand, 1) := by decide +kernel
theorem dX12_feed_52 : decode cX12_feed 52 = .ok (.imul, 1) := by decide +kernel
theorem dX12_feed_53 : decode cX12_feed 53 = .ok (.isub, 1) := by decide +kernel
theorem dX12_feed_54 : decode cX12_feed 54 = .ok (.lushr, 1) := by decide +kernel
theorem dX12_feed_55 : decode cX12_feed 55 = .ok (.ldc2_w 130, 3) := by decide +kernel
theorem dX12_feed_58 : decode cX12_feed 58 = .ok (.land, 1) := by decide +kernel
theorem dX12_feed_59 : decode cX12_feed 59 = .ok (.l2i, 1) := by decide +kernel
theorem dX12_feed_60 : decode cX12_feed 60 = .ok (.istore 10, 2) := by decide +kernel
theorem dX12_feed_62 : decode cX12_feed 62 = .ok (.aload_n 0, 1) := by decide +kernel
theorem dX12_feed_63 : decode cX12_feed 63 = .ok (.getfield 132, 3) := by decide +kernel
theorem dX12_feed_66 : decode cX12_feed 66 = .ok (.sipush 1000, 3) := by decide +kernel
theorem dX12_feed_69 : decode cX12_feed 69 = .ok (.if_icmp .ge 45, 3) := by decide +kernel
theorem dX12_feed_72 : decode cX12_feed 72 = .ok (.iload 10, 2) := by decide +kernel
theorem dX12_feed_74 : decode cX12_feed 74 = .ok (.bipush 10, 2) := by decide +kernel
theorem dX12_feed_76 : decode cX12_feed 76 = .ok (.if_icmp .eq 17, 3) := by decide +kernel
theorem dX12_feed_79 : decode cX12_feed 79 = .ok (.iload 10, 2) := by decide +kernel
theorem dX12_feed_81 : decode cX12_feed 81 = .ok (.bipush 32, 2) := by decide +kernel
theorem dX12_feed_83 : decode cX12_feed 83 = .ok (.if_icmp .lt 31, 3) := by decide +kernel
theorem dX12_feed_86 : decode cX12_feed 86 = .ok (.iload 10, 2) := by decide +kernel
theorem dX12_feed_88 : decode cX12_feed 88 = .ok (.bipush 126, 2) := by decide +kernel
theorem dX12_feed_90 : decode cX12_feed 90 = .ok (.if_icmp .gt 24, 3) := by decide +kernel
theorem dX12_feed_93 : decode cX12_feed 93 = .ok (.aload_n 0, 1) := by decide +kernel
theorem dX12_feed_94 : decode cX12_feed 94 = .ok (.getfield 7, 3) := by decide +kernel
theorem dX12_feed_97 : decode cX12_feed 97 = .ok (.aload_n 0, 1) := by decide +kernel
theorem dX12_feed_98 : decode cX12_feed 98 = .ok (.getfield 132, 3) := by decide +kernel
theorem dX12_feed_101 : decode cX12_feed 101 = .ok (.iload 10, 2) := by decide +kernel
theorem dX12_feed_103 : decode cX12_feed 103 = .ok (.iastore, 1) := by decide +kernel
theorem dX12_feed_104 : decode cX12_feed 104 = .ok (.aload_n 0, 1) := by decide +kernel
theorem dX12_feed_105 : decode cX12_feed 105 = .ok (.dup, 1) := by decide +kernel
theorem dX12_feed_106 : decode cX12_feed 106 = .ok (.getfield 132, 3) := by decide +kernel
theorem dX12_feed_109 : decode cX12_feed 109 = .ok (.iconst 1, 1) := by decide +kernel
theorem dX12_feed_110 : decode cX12_feed 110 = .ok (.iadd, 1) := by decide +kernel
theorem dX12_feed_111 : decode cX12_feed 111 = .ok (.putfield 132, 3) := by decide +kernel
theorem dX12_feed_114 : decode cX12_feed 114 = .ok (.iinc 7 1, 3) := by decide +kernel
theorem dX12_feed_117 : decode cX12_feed 117 = .ok (.goto (-109), 3) := by decide +kernel
theorem dX12_feed_120 : decode cX12_feed 120 = .ok (.aload_n 0, 1) := by decide +kernel
theorem dX12_feed_121 : decode cX12_feed 121 = .ok (.getfield 132, 3) := by decide +kernel
theorem dX12_feed_124 : decode cX12_feed 124 = .ok (.ireturn, 1) := by decide +kernel
def g_X12_feed_93 (t0 : Nat) (k8 : Int64 → Int64 → Int64 → Int32 → zH → Option (Int32 × zH)) (x1 : Int64) (x3 : Int64) (x5 : Int64) (x7 : Int32) (x10 : Int32) (h : zH) : Option (Int32 × zH) := zgu (zin (h.1 t0 1) 1000) <| zlet (zpi h (zR t0 2) (zx (h.1 t0 1)) x10) fun h_11 => zlet (zpi h_11 t0 1 ((h_11.1 t0 1) + 1)) fun h_12 => k8 x1 x3 x5 (x7 + 1) h_12
def g_X12_feed_39 (t0 : Nat) (k8 : Int64 → Int64 → Int64 → Int32 → zH → Option (Int32 × zH)) (x1 : Int64) (x3 : Int64) (x5 : Int64) (x7 : Int32) (s0 : Int64) (h : zH) : Option (Int32 × zH) := zlet ((((s0.toUInt64 >>> ((56 - (8 * (x7 &&& 7))).toInt64.toUInt64 &&& Int64.toUInt64 63)).toInt64) &&& 255).toInt32) fun v_5 => if 1000 ≤ (h.1 t0 1) then (k8 x1 x3 x5 (x7 + 1) h) else (if v_5 = 10 then (g_X12_feed_93 t0 k8 x1 x3 x5 x7 v_5 h) else (if v_5 < 32 then (k8 x1 x3 x5 (x7 + 1) h) else (if 126 < v_5 then (k8 x1 x3 x5 (x7 + 1) h) else (g_X12_feed_93 t0 k8 x1 x3 x5 x7 v_5 h))))
def g_X12_feed_8 (t0 : Nat)  : Nat → Int64 → Int64 → Int64 → Int32 → zH → Option (Int32 × zH)
  | 0, _, _, _, _, _ => none
  | n + 1, x1, x3, x5, x7, h => if 24 ≤ x7 then (some (h.1 t0 1, h)) else (if 8 ≤ x7 then (if 16 ≤ x7 then (g_X12_feed_39 t0 (g_X12_feed_8 t0 n) x1 x3 x5 x7 x5 h) else (g_X12_feed_39 t0 (g_X12_feed_8 t0 n) x1 x3 x5 x7 x3 h)) else (g_X12_feed_39 t0 (g_X12_feed_8 t0 n) x1 x3 x5 x7 x1 h))
def g_X12_feed (h : zH) (t0 : Nat) (x1 : Int64) (x3 : Int64) (x5 : Int64) : Option (Int32 × zH) := zlet (zpi h t0 0 0) fun h_1 => g_X12_feed_8 t0 zfu x1 x3 x5 0 h_1
set_option maxRecDepth 100000 in
set_option maxHeartbeats 4000000 in
theorem b_X12_feed_93 {K : zK} {G : zG} (hK : zC K G cX12_feed RX12 11 0 0 (some .int)) {t0 : Nat} (ht0 : zT t0 = (11, 0)) {r : Int32 × zH} (hE : zE K G (some (.int r.1)) r.2) {k8 : Int64 → Int64 → Int64 → Int32 → zH → Option (Int32 × zH)} (hk8 : ∀ (x1 : Int64) (x3 : Int64) (x5 : Int64) (x7 : Int32) (h : zH), k8 x1 x3 x5 x7 h = some r → zW K G 11 8 [(0, .ref (G.2.2.2 t0)), (1, .long x1), (3, .long x3), (5, .long x5), (7, .int x7)] [] h) (x1 : Int64) (x3 : Int64) (x5 : Int64) (x7 : Int32) (x10 : Int32) (h : zH) (hg : g_X12_feed_93 t0 k8 x1 x3 x5 x7 x10 h = some r) : zW K G 11 93 [(0, .ref (G.2.2.2 t0)), (1, .long x1), (3, .long x3), (5, .long x5), (7, .int x7), (10, .int x10)] [] h := by
  rw [g_X12_feed_93] at hg
  obtain ⟨c_10, hg⟩ := zgu_some hg
  obtain ⟨h_11, eh_11, hg⟩ := zlet_some hg
  obtain ⟨h_12, eh_12, hg⟩ := zlet_some hg
  exact z_aload_n (pc := 93) hK 0 dX12_feed_93 rfl (z_getR (pc := 94) hK f_X12_7_11 ht0 dX12_feed_94 (z_aload_n (pc := 97) hK 0 dX12_feed_97 rfl (z_getI (pc := 98) hK f_X12_132_11 ht0 dX12_feed_98 (z_iload (pc := 101) hK 5 dX12_feed_101 rfl (z_iast (pc := 103) hK (zt_11_2 ht0) c_10 dX12_feed_103 (z_nameH eh_11 (z_aload_n (pc := 104) hK 0 dX12_feed_104 rfl (z_dup (pc := 105) hK dX12_feed_105 rfl (z_getI (pc := 106) hK f_X12_132_11 ht0 dX12_feed_106 (z_iconst (pc := 109) hK dX12_feed_109 zc_i1 (z_iadd (pc := 110) hK dX12_feed_110 (z_putI (pc := 111) hK f_X12_132_11 fp_11_1 ht0 dX12_feed_111 (z_nameH eh_12 (z_iinc (pc := 114) hK 4 (lv' := [(7, .int (x7 + 1)), (0, .ref (G.2.2.2 t0)), (1, .long x1), (3, .long x3), (5, .long x5), (10, .int x10)]) dX12_feed_114 rfl (zc_n1 _) (by decide) rfl (z_goto (pc := 117) hK 8 dX12_feed_117 (by decide) (zsub (lv' := [(0, .ref (G.2.2.2 t0)), (1, .long x1), (3, .long x3), (5, .long x5), (7, .int (x7 + 1))]) [1, 2, 3, 4, 0] rfl (hk8 x1 x3 x5 (x7 + 1) h_12 hg)))))))))))))))))
set_option maxRecDepth 100000 in
set_option maxHeartbeats 4000000 in
theorem b_X12_feed_39 {K : zK} {G : zG} (hK : zC K G cX12_feed RX12 11 0 0 (some .int)) {t0 : Nat} (ht0 : zT t0 = (11, 0)) {r : Int32 × zH} (hE : zE K G (some (.int r.1)) r.2) {k8 : Int64 → Int64 → Int64 → Int32 → zH → Option (Int32 × zH)} (hk8 : ∀ (x1 : Int64) (x3 : Int64) (x5 : Int64) (x7 : Int32) (h : zH), k8 x1 x3 x5 x7 h = some r → zW K G 11 8 [(0, .ref (G.2.2.2 t0)), (1, .long x1), (3, .long x3), (5, .long x5), (7, .int x7)] [] h) (x1 : Int64) (x3 : Int64) (x5 : Int64) (x7 : Int32) (s0 : Int64) (h : zH) (hg : g_X12_feed_39 t0 k8 x1 x3 x5 x7 s0 h = some r) : zW K G 11 39 [(0, .ref (G.2.2.2 t0)), (1, .long x1), (3, .long x3), (5, .long x5), (7, .int x7)] [.long s0] h := by
  rw [g_X12_feed_39] at hg
  obtain ⟨v_5, ev_5, hg⟩ := zlet_some hg
  refine z_lstore (pc := 39) hK (lv' := [(8, .long s0), (0, .ref (G.2.2.2 t0)), (1, .long x1), (3, .long x3), (5, .long x5), (7, .int x7)]) dX12_feed_39 (by decide) rfl (z_lload (pc := 41) hK 0 dX12_feed_41 rfl (z_bipush (pc := 43) hK dX12_feed_43 zc_b56 (z_bipush (pc := 45) hK dX12_feed_45 zc_b8 (z_iload (pc := 47) hK 5 dX12_feed_47 rfl (z_bipush (pc := 49) hK dX12_feed_49 zc_b7 (z_iand (pc := 51) hK dX12_feed_51 (z_imul (pc := 52) hK dX12_feed_52 (z_isub (pc := 53) hK dX12_feed_53 (z_lushr (pc := 54) hK dX12_feed_54 rfl (z_ldc2 (pc := 55) hK q_1461 dX12_feed_55 (z_land (pc := 58) hK dX12_feed_58 (z_l2i (pc := 59) hK dX12_feed_59 rfl (z_nameI ev_5 (z_istore (pc := 60) hK (lv' := [(10, .int v_5), (8, .long s0), (0, .ref (G.2.2.2 t0)), (1, .long x1), (3, .long x3), (5, .long x5), (7, .int x7)]) dX12_feed_60 (by decide) rfl (z_aload_n (pc := 62) hK 2 dX12_feed_62 rfl (z_getI (pc := 63) hK f_X12_132_11 ht0 dX12_feed_63 (z_sipush (pc := 66) hK dX12_feed_66 zc_s1000 (z_icmp_ge (pc := 69) hK 114 dX12_feed_69 (by decide) (fun c_6 => ?_) (fun c_6 => ?_)))))))))))))))))))
  · rw [if_pos c_6] at hg
    exact z_iinc (pc := 114) hK 6 (lv' := [(7, .int (x7 + 1)), (10, .int v_5), (8, .long s0), (0, .ref (G.2.2.2 t0)), (1, .long x1), (3, .long x3), (5, .long x5)]) dX12_feed_114 rfl (zc_n1 _) (by decide) rfl (z_goto (pc := 117) hK 8 dX12_feed_117 (by decide) (zsub (lv' := [(0, .ref (G.2.2.2 t0)), (1, .long x1), (3, .long x3), (5, .long x5), (7, .int (x7 + 1))]) [3, 4, 5, 6, 0] rfl (hk8 x1 x3 x5 (x7 + 1) h hg)))
  · rw [if_neg c_6] at hg
    refine z_iload (pc := 72) hK 0 dX12_feed_72 rfl (z_bipush (pc := 74) hK dX12_feed_74 zc_b10 (z_icmp_eq (pc := 76) hK 93 dX12_feed_76 (by decide) (fun c_7 => ?_) (fun c_7 => ?_)))
    · rw [if_pos c_7] at hg
      exact zsub (lv' := [(0, .ref (G.2.2.2 t0)), (1, .long x1), (3, .long x3), (5, .long x5), (7, .int x7), (10, .int v_5)]) [2, 3, 4, 5, 6, 0] rfl (b_X12_feed_93 hK ht0 hE hk8 x1 x3 x5 x7 v_5 h hg)
    · rw [if_neg c_7] at hg
      refine z_iload (pc := 79) hK 0 dX12_feed_79 rfl (z_bipush (pc := 81) hK dX12_feed_81 zc_b32 (z_icmp_lt (pc := 83) hK 114 dX12_feed_83 (by decide) (fun c_8 => ?_) (fun c_8 => ?_)))
      · rw [if_pos c_8] at hg
        exact z_iinc (pc := 114) hK 6 (lv' := [(7, .int (x7 + 1)), (10, .int v_5), (8, .long s0), (0, .ref (G.2.2.2 t0)), (1, .long x1), (3, .long x3), (5, .long x5)]) dX12_feed_114 rfl (zc_n1 _) (by decide) rfl (z_goto (pc := 117) hK 8 dX12_feed_117 (by decide) (zsub (lv' := [(0, .ref (G.2.2.2 t0)), (1, .long x1), (3, .long x3), (5, .long x5), (7, .int (x7 + 1))]) [3, 4, 5, 6, 0] rfl (hk8 x1 x3 x5 (x7 + 1) h hg)))
      · rw [if_neg c_8] at hg
        refine z_iload (pc := 86) hK 0 dX12_feed_86 rfl (z_bipush (pc := 88) hK dX12_feed_88 zc_b126 (z_icmp_gt (pc := 90) hK 114 dX12_feed_90 (by decide) (fun c_9 => ?_) (fun c_9 => ?_)))
        · rw [if_pos c_9] at hg
          exact z_iinc (pc := 114) hK 6 (lv' := [(7, .int (x7 + 1)), (10, .int v_5), (8, .long s0), (0, .ref (G.2.2.2 t0)), (1, .long x1), (3, .long x3), (5, .long x5)]) dX12_feed_114 rfl (zc_n1 _) (by decide) rfl (z_goto (pc := 117) hK 8 dX12_feed_117 (by decide) (zsub (lv' := [(0, .ref (G.2.2.2 t0)), (1, .long x1), (3, .long x3), (5, .long x5), (7, .int (x7 + 1))]) [3, 4, 5, 6, 0] rfl (hk8 x1 x3 x5 (x7 + 1) h hg)))
        · rw [if_neg c_9] at hg
          exact zsub (lv' := [(0, .ref (G.2.2.2 t0)), (1, .long x1), (3, .long x3), (5, .long x5), (7, .int x7), (10, .int v_5)]) [2, 3, 4, 5, 6, 0] rfl (b_X12_feed_93 hK ht0 hE hk8 x1 x3 x5 x7 v_5 h hg)
set_option maxRecDepth 100000 in
set_option maxHeartbeats 4000000 in
theorem b_X12_feed_8 {K : zK} {G : zG} (hK : zC K G cX12_feed RX12 11 0 0 (some .int)) {t0 : Nat} (ht0 : zT t0 = (11, 0)) {r : Int32 × zH} (hE : zE K G (some (.int r.1)) r.2) : ∀ (n : Nat) (x1 : Int64) (x3 : Int64) (x5 : Int64) (x7 : Int32) (h : zH), g_X12_feed_8 t0 n x1 x3 x5 x7 h = some r → zW K G 11 8 [(0, .ref (G.2.2.2 t0)), (1, .long x1), (3, .long x3), (5, .long x5), (7, .int x7)] [] h := by
  intro n
  induction n with
  | zero => intro x1 x3 x5 x7 h hg; exact nomatch (show none = some r from hg)
  | succ n ih =>
    intro x1 x3 x5 x7 h hg
    rw [g_X12_feed_8] at hg
    refine z_iload (pc := 8) hK 4 dX12_feed_8 rfl (z_bipush (pc := 10) hK dX12_feed_10 zc_b24 (z_icmp_ge (pc := 12) hK 120 dX12_feed_12 (by decide) (fun c_2 => ?_) (fun c_2 => ?_)))
    · rw [if_pos c_2] at hg
      exact z_aload_n (pc := 120) hK 0 dX12_feed_120 rfl (z_getI (pc := 121) hK f_X12_132_11 ht0 dX12_feed_121 (z_iretE (pc := 124) hK hE hg dX12_feed_124))
    · rw [if_neg c_2] at hg
      refine z_iload (pc := 15) hK 4 dX12_feed_15 rfl (z_bipush (pc := 17) hK dX12_feed_17 zc_b8 (z_icmp_ge (pc := 19) hK 26 dX12_feed_19 (by decide) (fun c_3 => ?_) (fun c_3 => ?_)))
      · rw [if_pos c_3] at hg
        refine z_iload (pc := 26) hK 4 dX12_feed_26 rfl (z_bipush (pc := 28) hK dX12_feed_28 zc_b16 (z_icmp_ge (pc := 30) hK 37 dX12_feed_30 (by decide) (fun c_4 => ?_) (fun c_4 => ?_)))
        · rw [if_pos c_4] at hg
          exact z_lload (pc := 37) hK 3 dX12_feed_37 rfl (zsub (lv' := [(0, .ref (G.2.2.2 t0)), (1, .long x1), (3, .long x3), (5, .long x5), (7, .int x7)]) [0, 1, 2, 3, 4] rfl (b_X12_feed_39 hK ht0 hE ih x1 x3 x5 x7 x5 h hg))
        · rw [if_neg c_4] at hg
          exact z_lload_n (pc := 33) hK 2 dX12_feed_33 rfl (z_goto (pc := 34) hK 39 dX12_feed_34 (by decide) (zsub (lv' := [(0, .ref (G.2.2.2 t0)), (1, .long x1), (3, .long x3), (5, .long x5), (7, .int x7)]) [0, 1, 2, 3, 4] rfl (b_X12_feed_39 hK ht0 hE ih x1 x3 x5 x7 x3 h hg)))
      · rw [if_neg c_3] at hg
        exact z_lload_n (pc := 22) hK 1 dX12_feed_22 rfl (z_goto (pc := 23) hK 39 dX12_feed_23 (by decide) (zsub (lv' := [(0, .ref (G.2.2.2 t0)), (1, .long x1), (3, .long x3), (5, .long x5), (7, .int x7)]) [0, 1, 2, 3, 4] rfl (b_X12_feed_39 hK ht0 hE ih x1 x3 x5 x7 x1 h hg)))
set_option maxRecDepth 100000 in
set_option maxHeartbeats 4000000 in
theorem b_X12_feed {K : zK} {G : zG} (hK : zC K G cX12_feed RX12 11 0 0 (some .int)) {h : zH} {t0 : Nat} {x1 : Int64} {x3 : Int64} {x5 : Int64} (ht0 : zT t0 = (11, 0)) {r : Int32 × zH} (hE : zE K G (some (.int r.1)) r.2) (hg : g_X12_feed h t0 x1 x3 x5 = some r) : zW K G 11 0 [(0, .ref (G.2.2.2 t0)), (1, .long x1), (3, .long x3), (5, .long x5)] [] h := by
  rw [g_X12_feed] at hg
  obtain ⟨h_1, eh_1, hg⟩ := zlet_some hg
  exact z_aload_n (pc := 0) hK 0 dX12_feed_0 rfl (z_iconst (pc := 1) hK dX12_feed_1 zc_i0 (z_putI (pc := 2) hK f_X12_126_11 fp_11_0 ht0 dX12_feed_2 (z_nameH eh_1 (z_iconst (pc := 5) hK dX12_feed_5 zc_i0 (z_istore (pc := 6) hK (lv' := [(7, .int 0), (0, .ref (G.2.2.2 t0)), (1, .long x1), (3, .long x3), (5, .long x5)]) dX12_feed_6 (by decide) rfl (zsub (lv' := [(0, .ref (G.2.2.2 t0)), (1, .long x1), (3, .long x3), (5, .long x5), (7, .int 0)]) [1, 2, 3, 4, 0] rfl (b_X12_feed_8 hK ht0 hE zfu x1 x3 x5 0 h_1 hg)))))))
theorem m_X12_feed {l : Launch} {G : zG} (hG : zD G) {h : zH} {t0 : Nat} {x1 : Int64} {x3 : Int64} {x5 : Int64} (ht0 : zT t0 = (11, 0)) {r : Int32 × zH} (hg : g_X12_feed h t0 x1 x3 x5 = some r) : zM l G yX12_feed cX12_feed 11 (some .int) 0 0 [.ref (G.2.2.2 t0), .long x1, .long x3, .long x5] h (some (.int r.1)) r.2 :=
  zM_of hG pn_X12 (Nat.le_of_ble_eq_true rfl) (fun K _ hK hE => b_X12_feed hK ht0 hE hg)
theorem dX12_signAt_0 : decode cX12_signAt 0 = .ok (.iload_n 1, 1) := by decide +kernel
theorem dX12_signAt_1 : decode cX12_signAt 1 = .ok (.aload_n 0, 1) := by decide +kernel
theorem dX12_signAt_2 : decode cX12_signAt 2 = .ok (.getfield 135, 3) := by decide +kernel
theorem dX12_signAt_5 : decode cX12_signAt 5 = .ok (.if_icmp .ge 12, 3) := by decide +kernel
theorem dX12_signAt_8 : decode cX12_signAt 8 = .ok (.aload_n 0, 1) := by decide +kernel
theorem dX12_signAt_9 : decode cX12_signAt 9 = .ok (.getfield 7, 3) := by decide +kernel
theorem dX12_signAt_12 : decode cX12_signAt 12 = .ok (.iload_n 1, 1) := by decide +kernel
theorem dX12_signAt_13 : decode cX12_signAt 13 = .ok (.iaload, 1) := by decide +kernel
theorem dX12_signAt_14 : decode cX12_signAt 14 = .ok (.goto 4, 3) := by decide +kernel
theorem dX12_signAt_17 : decode cX12_signAt 17 = .ok (.iconst 0, 1) := by decide +kernel
theorem dX12_signAt_18 : decode cX12_signAt 18 = .ok (.ireturn, 1) := by decide +kernel
def g_X12_signAt (h : zH) (t0 : Nat) (x1 : Int32) : Option Int32 := if (h.1 t0 3) ≤ x1 then (some 0) else (zgu (zin x1 1000) <| some (h.1 (zR t0 2) (zx x1)))
set_option maxRecDepth 100000 in
set_option maxHeartbeats 4000000 in
theorem b_X12_signAt {K : zK} {G : zG} (hK : zC K G cX12_signAt RX12 2 0 0 (some .int)) {h : zH} {t0 : Nat} {x1 : Int32} (ht0 : zT t0 = (11, 0)) {r : Int32} (hE : zE K G (some (.int r)) h) (hg : g_X12_signAt h t0 x1 = some r) : zW K G 2 0 [(0, .ref (G.2.2.2 t0)), (1, .int x1)] [] h := by
  rw [g_X12_signAt] at hg
  refine z_iload_n (pc := 0) hK 1 dX12_signAt_0 rfl (z_aload_n (pc := 1) hK 0 dX12_signAt_1 rfl (z_getI (pc := 2) hK f_X12_135_11 ht0 dX12_signAt_2 (z_icmp_ge (pc := 5) hK 17 dX12_signAt_5 (by decide) (fun c_1 => ?_) (fun c_1 => ?_))))
  · rw [if_pos c_1] at hg
    exact z_iconst (pc := 17) hK dX12_signAt_17 zc_i0 (z_iretP (pc := 18) hK hE hg dX12_signAt_18)
  · rw [if_neg c_1] at hg
    obtain ⟨c_2, hg⟩ := zgu_some hg
    exact z_aload_n (pc := 8) hK 0 dX12_signAt_8 rfl (z_getR (pc := 9) hK f_X12_7_11 ht0 dX12_signAt_9 (z_iload_n (pc := 12) hK 1 dX12_signAt_12 rfl (z_iald (pc := 13) hK (zt_11_2 ht0) c_2 dX12_signAt_13 (z_goto (pc := 14) hK 18 dX12_signAt_14 (by decide) (z_iretP (pc := 18) hK hE hg dX12_signAt_18)))))
theorem m_X12_signAt {l : Launch} {G : zG} (hG : zD G) {h : zH} {t0 : Nat} {x1 : Int32} (ht0 : zT t0 = (11, 0)) {r : Int32} (hg : g_X12_signAt h t0 x1 = some r) : zM l G yX12_signAt cX12_signAt 2 (some .int) 0 0 [.ref (G.2.2.2 t0), .int x1] h (some (.int r)) h :=
  zM_of hG pn_X12 (Nat.le_of_ble_eq_true rfl) (fun K _ hK hE => b_X12_signAt hK ht0 hE hg)
theorem dX12_nextToken_0 : decode cX12_nextToken 0 = .ok (.aload_n 0, 1) := by decide +kernel
theorem dX12_nextToken_1 : decode cX12_nextToken 1 = .ok (.getfield 138, 3) := by decide +kernel
theorem dX12_nextToken_4 : decode cX12_nextToken 4 = .ok (.aload_n 0, 1) := by decide +kernel
theorem dX12_nextToken_5 : decode cX12_nextToken 5 = .ok (.getfield 135, 3) := by decide +kernel
theorem dX12_nextToken_8 : decode cX12_nextToken 8 = .ok (.if_icmp .ge 44, 3) := by decide +kernel
theorem dX12_nextToken_11 : decode cX12_nextToken 11 = .ok (.aload_n 0, 1) := by decide +kernel
theorem dX12_nextToken_12 : decode cX12_nextToken 12 = .ok (.getfield 7, 3) := by decide +kernel
theorem dX12_nextToken_15 : decode cX12_nextToken 15 = .ok (.aload_n 0, 1) := by decide +kernel
theorem dX12_nextToken_16 : decode cX12_nextToken 16 = .ok (.getfield 138, 3) := by decide +kernel
theorem dX12_nextToken_19 : decode cX12_nextToken 19 = .ok (.iaload, 1) := by decide +kernel
theorem dX12_nextToken_20 : decode cX12_nextToken 20 = .ok (.bipush 32, 2) := by decide +kernel
theorem dX12_nextToken_22 : decode cX12_nextToken 22 = .ok (.if_icmp .eq 17, 3) := by decide +kernel
theorem dX12_nextToken_25 : decode cX12_nextToken 25 = .ok (.aload_n 0, 1) := by decide +kernel
theorem dX12_nextToken_26 : decode cX12_nextToken 26 = .ok (.getfield 7, 3) := by decide +kernel
theorem dX12_nextToken_29 : decode cX12_nextToken 29 = .ok (.aload_n 0, 1) := by decide +kernel
theorem dX12_nextToken_30 : decode cX12_nextToken 30 = .ok (.getfield 138, 3) := by decide +kernel
theorem dX12_nextToken_33 : decode cX12_nextToken 33 = .ok (.iaload, 1) := by decide +kernel
theorem dX12_nextToken_34 : decode cX12_nextToken 34 = .ok (.bipush 10, 2) := by decide +kernel
theorem dX12_nextToken_36 : decode cX12_nextToken 36 = .ok (.if_icmp .ne 16, 3) := by decide +kernel
theorem dX12_nextToken_39 : decode cX12_nextToken 39 = .ok (.aload_n 0, 1) := by decide +kernel
theorem dX12_nextToken_40 : decode cX12_nextToken 40 = .ok (.dup, 1) := by decide +kernel
theorem dX12_nextToken_41 : decode cX12_nextToken 41 = .ok (.getfield 138, 3) := by decide +kernel
theorem dX12_nextToken_44 : decode cX12_nextToken 44 = .ok (.iconst 1, 1) := by decide +kernel
theorem dX12_nextToken_45 : decode cX12_nextToken 45 = .ok (.iadd, 1) := by decide +kernel
theorem dX12_nextToken_46 : decode cX12_nextToken 46 = .ok (.putfield 138, 3) := by decide +kernel
theorem dX12_nextToken_49 : decode cX12_nextToken 49 = .ok (.goto (-49), 3) := by decide +kernel
theorem dX12_nextToken_52 : decode cX12_nextToken 52 = .ok (.aload_n 0, 1) := by decide +kernel
theorem dX12_nextToken_53 : decode cX12_nextToken 53 = .ok (.aload_n 0, 1) := by decide +kernel
theorem dX12_nextToken_54 : decode cX12_nextToken 54 = .ok (.getfield 138, 3) := by decide +kernel
theorem dX12_nextToken_57 : decode cX12_nextToken 57 = .ok (.putfield 141, 3) := by decide +kernel
theorem dX12_nextToken_60 : decode cX12_nextToken 60 = .ok (.aload_n 0, 1) := by decide +kernel
theorem dX12_nextToken_61 : decode cX12_nextToken 61 = .ok (.lconst 0, 1) := by decide +kernel
theorem dX12_nextToken_62 : decode cX12_nextToken 62 = .ok (.putfield 144, 3) := by decide +kernel
theorem dX12_nextToken_65 : decode cX12_nextToken 65 = .ok (.aload_n 0, 1) := by decide +kernel
theorem dX12_nextToken_66 : decode cX12_nextToken 66 = .ok (.iconst 0, 1) := by decide +kernel
theorem dX12_nextToken_67 : decode cX12_nextToken 67 = .ok (.putfield 148, 3) := by decide +kernel
theorem dX12_nextToken_70 : decode cX12_nextToken 70 = .ok (.aload_n 0, 1) := by decide +kernel
theorem dX12_nextToken_71 : decode cX12_nextToken 71 = .ok (.getfield 138, 3) := by decide +kernel
theorem dX12_nextToken_74 : decode cX12_nextToken 74 = .ok (.aload_n 0, 1) := by decide +kernel
theorem dX12_nextToken_75 : decode cX12_nextToken 75 = .ok (.getfield 135, 3) := by decide +kernel
theorem dX12_nextToken_78 : decode cX12_nextToken 78 = .ok (.if_icmp .ne 9, 3) := by decide +kernel
theorem dX12_nextToken_81 : decode cX12_nextToken 81 = .ok (.aload_n 0, 1) := by decide +kernel
theorem dX12_nextToken_82 : decode cX12_nextToken 82 = .ok (.iconst 0, 1) := by decide +kernel
theorem dX12_nextToken_83 : decode cX12_nextToken 83 = .ok (.putfield 151, 3) := by decide +kernel
theorem dX12_nextToken_86 : decode cX12_nextToken 86 = .ok (.return_, 1) := by decide +kernel
theorem dX12_nextToken_87 : decode cX12_nextToken 87 = .ok (.aload_n 0, 1) := by decide +kernel
theorem dX12_nextToken_88 : decode cX12_nextToken 88 = .ok (.getfield 7, 3) := by decide +kernel
theorem dX12_nextToken_91 : decode cX12_nextToken 91 = .ok (.aload_n 0, 1) := by decide +kernel
theorem dX12_nextToken_92 : decode cX12_nextToken 92 = .ok (.getfield 138, 3) := by decide +kernel
theorem dX12_nextToken_95 : decode cX12_nextToken 95 = .ok (.iaload, 1) := by decide +kernel
theorem dX12_nextToken_96 : decode cX12_nextToken 96 = .ok (.istore_n 1, 1) := by decide +kernel
theorem dX12_nextToken_97 : decode cX12_nextToken 97 = .ok (.iload_n 1, 1) := by decide +kernel
theorem dX12_nextToken_98 : decode cX12_nextToken 98 = .ok (.bipush 97, 2) := by decide +kernel
theorem dX12_nextToken_100 : decode cX12_nextToken 100 = .ok (.if_icmp .lt 112, 3) := by decide +kernel
theorem dX12_nextToken_103 : decode cX12_nextToken 103 = .ok (.iload_n 1, 1) := by decide +kernel
theorem dX12_nextToken_104 : decode cX12_nextToken 104 = .ok (.bipush 122, 2) := by decide +kernel
theorem dX12_nextToken_106 : decode cX12_nextToken 106 = .ok (.if_icmp .gt 106, 3) := by decide +kernel
theorem dX12_nextToken_109 : decode cX12_nextToken 109 = .ok (.aload_n 0, 1) := by decide +kernel
theorem dX12_nextToken_110 : decode cX12_nextToken 110 = .ok (.aload_n 0, 1) := by decide +kernel
theorem dX12_nextToken_111 : decode cX12_nextToken 111 = .ok (.getfield 138, 3) := by decide +kernel
theorem dX12_nextToken_114 : decode cX12_nextToken 114 = .ok (.invokevirtual 154, 3) := by decide +kernel
theorem dX12_nextToken_117 : decode cX12_nextToken 117 = .ok (.bipush 97, 2) := by decide +kernel
theorem dX12_nextToken_119 : decode cX12_nextToken 119 = .ok (.if_icmp .lt 69, 3) := by decide +kernel
theorem dX12_nextToken_122 : decode cX12_nextToken 122 = .ok (.aload_n 0, 1) := by decide +kernel
theorem dX12_nextToken_123 : decode cX12_nextToken 123 = .ok (.aload_n 0, 1) := by decide +kernel
theorem dX12_nextToken_124 : decode cX12_nextToken 124 = .ok (.getfield 138, 3) := by decide +kernel
theorem dX12_nextToken_127 : decode cX12_nextToken 127 = .ok (.invokevirtual 154, 3) := by decide +kernel
theorem dX12_nextToken_130 : decode cX12_nextToken 130 = .ok (.bipush 122, 2) := by decide +kernel
theorem dX12_nextToken_132 : decode cX12_nextToken 132 = .ok (.if_icmp .gt 56, 3) := by decide +kernel
theorem dX12_nextToken_135 : decode cX12_nextToken 135 = .ok (.aload_n 0, 1) := by decide +kernel
theorem dX12_nextToken_136 : decode cX12_nextToken 136 = .ok (.getfield 138, 3) := by decide +kernel
theorem dX12_nextToken_139 : decode cX12_nextToken 139 = .ok (.aload_n 0, 1) := by decide +kernel
theorem dX12_nextToken_140 : decode cX12_nextToken 140 = .ok (.getfield 141, 3) := by decide +kernel
theorem dX12_nextToken_143 : decode cX12_nextToken 143 = .ok (.isub, 1) := by decide +kernel
theorem dX12_nextToken_144 : decode cX12_nextToken 144 = .ok (.bipush 8, 2) := by decide +kernel
theorem dX12_nextToken_146 : decode cX12_nextToken 146 = .ok (.if_icmp .ge 29, 3) := by decide +kernel
theorem dX12_nextToken_149 : decode cX12_nextToken 149 = .ok (.aload_n 0, 1) := by decide +kernel
theorem dX12_nextToken_150 : decode cX12_nextToken 150 = .ok (.aload_n 0, 1) := by decide +kernel
theorem dX12_nextToken_151 : decode cX12_nextToken 151 = .ok (.getfield 144, 3) := by decide +kernel
theorem dX12_nextToken_154 : decode cX12_nextToken 154 = .ok (.ldc2_w 158, 3) := by decide +kernel
theorem dX12_nextToken_157 : decode cX12_nextToken 157 = .ok (.lmul, 1) := by decide +kernel
theorem dX12_nextToken_158 : decode cX12_nextToken 158 = .ok (.aload_n 0, 1) := by decide +kernel
theorem dX12_nextToken_159 : decode cX12_nextToken 159 = .ok (.aload_n 0, 1) := by decide +kernel
theorem dX12_nextToken_160 : decode cX12_nextToken 160 = .ok (.getfield 138, 3) := by decide +kernel
theorem dX12_nextToken_163 : decode cX12_nextToken 163 = .ok (.invokevirtual 154, 3) := by decide +kernel
theorem dX12_nextToken_166 : decode cX12_nextToken 166 = .ok (.i2l, 1) := by decide +kernel
theorem dX12_nextToken_167 : decode cX12_nextToken 167 = .ok (.ladd, 1) := by decide +kernel
theorem dX12_nextToken_168 : decode cX12_nextToken 168 = .ok (.ldc2_w 160, 3) := by decide +kernel
theorem dX12_nextToken_171 : decode cX12_nextToken 171 = .ok (.lsub, 1) := by decide +kernel
theorem dX12_nextToken_172 : decode cX12_nextToken 172 = .ok (.putfield 144, 3) := by decide +kernel
theorem dX12_nextToken_175 : decode cX12_nextToken 175 = .ok (.aload_n 0, 1) := by decide +kernel
theorem dX12_nextToken_176 : decode cX12_nextToken 176 = .ok (.dup, 1) := by decide +kernel
theorem dX12_nextToken_177 : decode cX12_nextToken 177 = .ok (.getfield 138, 3) := by decide +kernel
theorem dX12_nextToken_180 : decode cX12_nextToken 180 = .ok (.iconst 1, 1) := by decide +kernel
theorem dX12_nextToken_181 : decode cX12_nextToken 181 = .ok (.iadd, 1) := by decide +kernel
theorem dX12_nextToken_182 : decode cX12_nextToken 182 = .ok (.putfield 138, 3) := by decide +kernel
theorem dX12_nextToken_185 : decode cX12_nextToken 185 = .ok (.goto (-76), 3) := by decide +kernel
theorem dX12_nextToken_188 : decode cX12_nextToken 188 = .ok (.aload_n 0, 1) := by decide +kernel
theorem dX12_nextToken_189 : decode cX12_nextToken 189 = .ok (.aload_n 0, 1) := by decide +kernel
theorem dX12_nextToken_190 : decode cX12_nextToken 190 = .ok (.getfield 138, 3) := by decide +kernel
theorem dX12_nextToken_193 : decode cX12_nextToken 193 = .ok (.aload_n 0, 1) := by decide +kernel
theorem dX12_nextToken_194 : decode cX12_nextToken 194 = .ok (.getfield 141, 3) := by decide +kernel
theorem dX12_nextToken_197 : decode cX12_nextToken 197 = .ok (.isub, 1) := by decide +kernel
theorem dX12_nextToken_198 : decode cX12_nextToken 198 = .ok (.bipush 8, 2) := by decide +kernel
theorem dX12_nextToken_200 : decode cX12_nextToken 200 = .ok (.if_icmp .le 7, 3) := by decide +kernel
theorem dX12_nextToken_203 : decode cX12_nextToken 203 = .ok (.iconst 4, 1) := by decide +kernel
theorem dX12_nextToken_204 : decode cX12_nextToken 204 = .ok (.goto 4, 3) := by decide +kernel
theorem dX12_nextToken_207 : decode cX12_nextToken 207 = .ok (.iconst 1, 1) := by decide +kernel
theorem dX12_nextToken_208 : decode cX12_nextToken 208 = .ok (.putfield 151, 3) := by decide +kernel
theorem dX12_nextToken_211 : decode cX12_nextToken 211 = .ok (.return_, 1) := by decide +kernel
theorem dX12_nextToken_212 : decode cX12_nextToken 212 = .ok (.iload_n 1, 1) := by decide +kernel
theorem dX12_nextToken_213 : decode cX12_nextToken 213 = .ok (.bipush 48, 2) := by decide +kernel
theorem dX12_nextToken_215 : decode cX12_nextToken 215 = .ok (.if_icmp .lt 107, 3) := by decide +kernel
theorem dX12_nextToken_218 : decode cX12_nextToken 218 = .ok (.iload_n 1, 1) := by decide +kernel
theorem dX12_nextToken_219 : decode cX12_nextToken 219 = .ok (.bipush 57, 2) := by decide +kernel
theorem dX12_nextToken_221 : decode cX12_nextToken 221 = .ok (.if_icmp .gt 101, 3) := by decide +kernel
theorem dX12_nextToken_224 : decode cX12_nextToken 224 = .ok (.aload_n 0, 1) := by decide +kernel
theorem dX12_nextToken_225 : decode cX12_nextToken 225 = .ok (.aload_n 0, 1) := by decide +kernel
theorem dX12_nextToken_226 : decode cX12_nextToken 226 = .ok (.getfield 138, 3) := by decide +kernel
theorem dX12_nextToken_229 : decode cX12_nextToken 229 = .ok (.invokevirtual 154, 3) := by decide +kernel
theorem dX12_nextToken_232 : decode cX12_nextToken 232 = .ok (.bipush 48, 2) := by decide +kernel
theorem dX12_nextToken_234 : decode cX12_nextToken 234 = .ok (.if_icmp .lt 65, 3) := by decide +kernel
theorem dX12_nextToken_237 : decode cX12_nextToken 237 = .ok (.aload_n 0, 1) := by decide +kernel
theorem dX12_nextToken_238 : decode cX12_nextToken 238 = .ok (.aload_n 0, 1) := by decide +kernel
theorem dX12_nextToken_239 : decode cX12_nextToken 239 = .ok (.getfield 138, 3) := by decide +kernel
theorem dX12_nextToken_242 : decode cX12_nextToken 242 = .ok (.invokevirtual 154, 3) := by decide +kernel
theorem dX12_nextToken_245 : decode cX12_nextToken 245 = .ok (.bipush 57, 2) := by decide +kernel
theorem dX12_nextToken_247 : decode cX12_nextToken 247 = .ok (.if_icmp .gt 52, 3) := by decide +kernel
theorem dX12_nextToken_250 : decode cX12_nextToken 250 = .ok (.aload_n 0, 1) := by decide +kernel
theorem dX12_nextToken_251 : decode cX12_nextToken 251 = .ok (.getfield 138, 3) := by decide +kernel
theorem dX12_nextToken_254 : decode cX12_nextToken 254 = .ok (.aload_n 0, 1) := by decide +kernel
theorem dX12_nextToken_255 : decode cX12_nextToken 255 = .ok (.getfield 141, 3) := by decide +kernel
theorem dX12_nextToken_258 : decode cX12_nextToken 258 = .ok (.isub, 1) := by decide +kernel
theorem dX12_nextToken_259 : decode cX12_nextToken 259 = .ok (.iconst 4, 1) := by decide +kernel
theorem dX12_nextToken_260 : decode cX12_nextToken 260 = .ok (.if_icmp .ge 26, 3) := by decide +kernel
theorem dX12_nextToken_263 : decode cX12_nextToken 263 = .ok (.aload_n 0, 1) := by decide +kernel
theorem dX12_nextToken_264 : decode cX12_nextToken 264 = .ok (.aload_n 0, 1) := by decide +kernel
theorem dX12_nextToken_265 : decode cX12_nextToken 265 = .ok (.getfield 148, 3) := by decide +kernel
theorem dX12_nextToken_268 : decode cX12_nextToken 268 = .ok (.bipush 10, 2) := by decide +kernel
theorem dX12_nextToken_270 : decode cX12_nextToken 270 = .ok (.imul, 1) := by decide +kernel
theorem dX12_nextToken_271 : decode cX12_nextToken 271 = .ok (.aload_n 0, 1) := by decide +kernel
theorem dX12_nextToken_272 : decode cX12_nextToken 272 = .ok (.aload_n 0, 1) := by decide +kernel
theorem dX12_nextToken_273 : decode cX12_nextToken 273 = .ok (.getfield 138, 3) := by decide +kernel
theorem dX12_nextToken_276 : decode cX12_nextToken 276 = .ok (.invokevirtual 154, 3) := by decide +kernel
theorem dX12_nextToken_279 : decode cX12_nextToken 279 = .ok (.iadd, 1) := by decide +kernel
theorem dX12_nextToken_280 : decode cX12_nextToken 280 = .ok (.bipush 48, 2) := by decide +kernel
theorem dX12_nextToken_282 : decode cX12_nextToken 282 = .ok (.isub, 1) := by decide +kernel
theorem dX12_nextToken_283 : decode cX12_nextToken 283 = .ok (.putfield 148, 3) := by decide +kernel
theorem dX12_nextToken_286 : decode cX12_nextToken 286 = .ok (.aload_n 0, 1) := by decide +kernel
theorem dX12_nextToken_287 : decode cX12_nextToken 287 = .ok (.dup, 1) := by decide +kernel
theorem dX12_nextToken_288 : decode cX12_nextToken 288 = .ok (.getfield 138, 3) := by decide +kernel
theorem dX12_nextToken_291 : decode cX12_nextToken 291 = .ok (.iconst 1, 1) := by decide +kernel
theorem dX12_nextToken_292 : decode cX12_nextToken 292 = .ok (.iadd, 1) := by decide +kernel
theorem dX12_nextToken_293 : decode cX12_nextToken 293 = .ok (.putfield 138, 3) := by decide +kernel
theorem dX12_nextToken_296 : decode cX12_nextToken 296 = .ok (.goto (-72), 3) := by decide +kernel
theorem dX12_nextToken_299 : decode cX12_nextToken 299 = .ok (.aload_n 0, 1) := by decide +kernel
theorem dX12_nextToken_300 : decode cX12_nextToken 300 = .ok (.aload_n 0, 1) := by decide +kernel
theorem dX12_nextToken_301 : decode cX12_nextToken 301 = .ok (.getfield 138, 3) := by decide +kernel
theorem dX12_nextToken_304 : decode cX12_nextToken 304 = .ok (.aload_n 0, 1) := by decide +kernel
theorem dX12_nextToken_305 : decode cX12_nextToken 305 = .ok (.getfield 141, 3) := by decide +kernel
theorem dX12_nextToken_308 : decode cX12_nextToken 308 = .ok (.isub, 1) := by decide +kernel
theorem dX12_nextToken_309 : decode cX12_nextToken 309 = .ok (.iconst 4, 1) := by decide +kernel
theorem dX12_nextToken_310 : decode cX12_nextToken 310 = .ok (.if_icmp .le 7, 3) := by decide +kernel
theorem dX12_nextToken_313 : decode cX12_nextToken 313 = .ok (.iconst 4, 1) := by decide +kernel
theorem dX12_nextToken_314 : decode cX12_nextToken 314 = .ok (.goto 4, 3) := by decide +kernel
theorem dX12_nextToken_317 : decode cX12_nextToken 317 = .ok (.iconst 2, 1) := by decide +kernel
theorem dX12_nextToken_318 : decode cX12_nextToken 318 = .ok (.putfield 151, 3) := by decide +kernel
theorem dX12_nextToken_321 : decode cX12_nextToken 321 = .ok (.return_, 1) := by decide +kernel
theorem dX12_nextToken_322 : decode cX12_nextToken 322 = .ok (.aload_n 0, 1) := by decide +kernel
theorem dX12_nextToken_323 : decode cX12_nextToken 323 = .ok (.dup, 1) := by decide +kernel
theorem dX12_nextToken_324 : decode cX12_nextToken 324 = .ok (.getfield 138, 3) := by decide +kernel
theorem dX12_nextToken_327 : decode cX12_nextToken 327 = .ok (.iconst 1, 1) := by decide +kernel
theorem dX12_nextToken_328 : decode cX12_nextToken 328 = .ok (.iadd, 1) := by decide +kernel
theorem dX12_nextToken_329 : decode cX12_nextToken 329 = .ok (.putfield 138, 3) := by decide +kernel
theorem dX12_nextToken_332 : decode cX12_nextToken 332 = .ok (.aload_n 0, 1) := by decide +kernel
theorem dX12_nextToken_333 : decode cX12_nextToken 333 = .ok (.iload_n 1, 1) := by decide +kernel
theorem dX12_nextToken_334 : decode cX12_nextToken 334 = .ok (.bipush 40, 2) := by decide +kernel
theorem dX12_nextToken_336 : decode cX12_nextToken 336 = .ok (.if_icmp .lt 9, 3) := by decide +kernel
theorem dX12_nextToken_339 : decode cX12_nextToken 339 = .ok (.iload_n 1, 1) := by decide +kernel
theorem dX12_nextToken_340 : decode cX12_nextToken 340 = .ok (.bipush 43, 2) := by decide +kernel
theorem dX12_nextToken_342 : decode cX12_nextToken 342 = .ok (.if_icmp .le 21, 3) := by decide +kernel
theorem dX12_nextToken_345 : decode cX12_nextToken 345 = .ok (.iload_n 1, 1) := by decide +kernel
theorem dX12_nextToken_346 : decode cX12_nextToken 346 = .ok (.bipush 45, 2) := by decide +kernel
theorem dX12_nextToken_348 : decode cX12_nextToken 348 = .ok (.if_icmp .eq 15, 3) := by decide +kernel
theorem dX12_nextToken_351 : decode cX12_nextToken 351 = .ok (.iload_n 1, 1) := by decide +kernel
theorem dX12_nextToken_352 : decode cX12_nextToken 352 = .ok (.bipush 59, 2) := by decide +kernel
theorem dX12_nextToken_354 : decode cX12_nextToken 354 = .ok (.if_icmp .lt 13, 3) := by decide +kernel
theorem dX12_nextToken_357 : decode cX12_nextToken 357 = .ok (.iload_n 1, 1) := by decide +kernel
theorem dX12_nextToken_358 : decode cX12_nextToken 358 = .ok (.bipush 61, 2) := by decide +kernel
theorem dX12_nextToken_360 : decode cX12_nextToken 360 = .ok (.if_icmp .gt 7, 3) := by decide +kernel
theorem dX12_nextToken_363 : decode cX12_nextToken 363 = .ok (.iconst 3, 1) := by decide +kernel
theorem dX12_nextToken_364 : decode cX12_nextToken 364 = .ok (.goto 4, 3) := by decide +kernel
theorem dX12_nextToken_367 : decode cX12_nextToken 367 = .ok (.iconst 4, 1) := by decide +kernel
theorem dX12_nextToken_368 : decode cX12_nextToken 368 = .ok (.putfield 151, 3) := by decide +kernel
theorem dX12_nextToken_371 : decode cX12_nextToken 371 = .ok (.return_, 1) := by decide +kernel
def g_X12_nextToken_318 (t0 : Nat)  (s0 : Int32) (h : zH) : Option zH := zlet (zpi h t0 6 s0) fun h_44 => some h_44
def g_X12_nextToken_299 (t0 : Nat)  (h : zH) : Option zH := if ((h.1 t0 4) - (h.1 t0 5)) ≤ 4 then (g_X12_nextToken_318 t0 2 h) else (g_X12_nextToken_318 t0 4 h)
def g_X12_nextToken_286 (t0 : Nat) (k224 : zH → Option zH) (h : zH) : Option zH := zlet (zpi h t0 4 ((h.1 t0 4) + 1)) fun h_41 => k224 h_41
def g_X12_nextToken_224 (t0 : Nat)  : Nat → zH → Option zH
  | 0, _ => none
  | n + 1, h => (g_X12_signAt h t0 (h.1 t0 4)).bind fun v_28 => if v_28 < 48 then (g_X12_nextToken_299 t0 h) else ((g_X12_signAt h t0 (h.1 t0 4)).bind fun v_30 => if 57 < v_30 then (g_X12_nextToken_299 t0 h) else (if 4 ≤ ((h.1 t0 4) - (h.1 t0 5)) then (g_X12_nextToken_286 t0 (g_X12_nextToken_224 t0 n) h) else ((g_X12_signAt h t0 (h.1 t0 4)).bind fun v_33 => zlet (zpi h t0 8 ((((h.1 t0 8) * 10) + v_33) - 48)) fun h_34 => g_X12_nextToken_286 t0 (g_X12_nextToken_224 t0 n) h_34)))
def g_X12_nextToken_368 (t0 : Nat)  (s0 : Int32) (h : zH) : Option zH := zlet (zpi h t0 6 s0) fun h_43 => some h_43
def g_X12_nextToken_363 (t0 : Nat)  (h : zH) : Option zH := g_X12_nextToken_368 t0 3 h
def g_X12_nextToken_367 (t0 : Nat)  (h : zH) : Option zH := g_X12_nextToken_368 t0 4 h
def g_X12_nextToken_345 (t0 : Nat)  (x1 : Int32) (h : zH) : Option zH := if x1 = 45 then (g_X12_nextToken_363 t0 h) else (if x1 < 59 then (g_X12_nextToken_367 t0 h) else (if 61 < x1 then (g_X12_nextToken_367 t0 h) else (g_X12_nextToken_363 t0 h)))
def g_X12_nextToken_322 (t0 : Nat)  (x1 : Int32) (h : zH) : Option zH := zlet (zpi h t0 4 ((h.1 t0 4) + 1)) fun h_25 => if x1 < 40 then (g_X12_nextToken_345 t0 x1 h_25) else (if x1 ≤ 43 then (g_X12_nextToken_363 t0 h_25) else (g_X12_nextToken_345 t0 x1 h_25))
def g_X12_nextToken_212 (t0 : Nat)  (x1 : Int32) (h : zH) : Option zH := if x1 < 48 then (g_X12_nextToken_322 t0 x1 h) else (if 57 < x1 then (g_X12_nextToken_322 t0 x1 h) else (g_X12_nextToken_224 t0 zfu h))
def g_X12_nextToken_208 (t0 : Nat)  (s0 : Int32) (h : zH) : Option zH := zlet (zpi h t0 6 s0) fun h_42 => some h_42
def g_X12_nextToken_188 (t0 : Nat)  (h : zH) : Option zH := if ((h.1 t0 4) - (h.1 t0 5)) ≤ 8 then (g_X12_nextToken_208 t0 1 h) else (g_X12_nextToken_208 t0 4 h)
def g_X12_nextToken_175 (t0 : Nat) (k109 : zH → Option zH) (h : zH) : Option zH := zlet (zpi h t0 4 ((h.1 t0 4) + 1)) fun h_36 => k109 h_36
def g_X12_nextToken_109 (t0 : Nat)  : Nat → zH → Option zH
  | 0, _ => none
  | n + 1, h => (g_X12_signAt h t0 (h.1 t0 4)).bind fun v_18 => if v_18 < 97 then (g_X12_nextToken_188 t0 h) else ((g_X12_signAt h t0 (h.1 t0 4)).bind fun v_20 => if 122 < v_20 then (g_X12_nextToken_188 t0 h) else (if 8 ≤ ((h.1 t0 4) - (h.1 t0 5)) then (g_X12_nextToken_175 t0 (g_X12_nextToken_109 t0 n) h) else ((g_X12_signAt h t0 (h.1 t0 4)).bind fun v_23 => zlet (zpl h t0 7 ((((h.2 t0 7) * 27) + v_23.toInt64) - 96)) fun h_24 => g_X12_nextToken_175 t0 (g_X12_nextToken_109 t0 n) h_24)))
def g_X12_nextToken_52 (t0 : Nat)  (h : zH) : Option zH := zlet (zpi h t0 5 (h.1 t0 4)) fun h_6 => zlet (zpl h_6 t0 7 0) fun h_7 => zlet (zpi h_7 t0 8 0) fun h_8 => if (h_8.1 t0 4) = (h_8.1 t0 3) then (zlet (zpi h_8 t0 6 0) fun h_14 => some h_14) else (zgu (zin (h_8.1 t0 4) 1000) <| zlet (h_8.1 (zR t0 2) (zx (h_8.1 t0 4))) fun v_11 => if v_11 < 97 then (g_X12_nextToken_212 t0 v_11 h_8) else (if 122 < v_11 then (g_X12_nextToken_212 t0 v_11 h_8) else (g_X12_nextToken_109 t0 zfu h_8)))
def g_X12_nextToken_39 (t0 : Nat) (k0 : zH → Option zH) (h : zH) : Option zH := zlet (zpi h t0 4 ((h.1 t0 4) + 1)) fun h_15 => k0 h_15
def g_X12_nextToken_0 (t0 : Nat)  : Nat → zH → Option zH
  | 0, _ => none
  | n + 1, h => if (h.1 t0 3) ≤ (h.1 t0 4) then (g_X12_nextToken_52 t0 h) else (zgu (zin (h.1 t0 4) 1000) <| if (h.1 (zR t0 2) (zx (h.1 t0 4))) = 32 then (g_X12_nextToken_39 t0 (g_X12_nextToken_0 t0 n) h) else (zgu (zin (h.1 t0 4) 1000) <| if (h.1 (zR t0 2) (zx (h.1 t0 4))) = 10 then (g_X12_nextToken_39 t0 (g_X12_nextToken_0 t0 n) h) else (g_X12_nextToken_52 t0 h)))
def g_X12_nextToken (h : zH) (t0 : Nat) : Option zH := g_X12_nextToken_0 t0 zfu h
set_option maxRecDepth 100000 in
set_option maxHeartbeats 4000000 in
theorem b_X12_nextToken_318 {K : zK} {G : zG} (hK : zC K G cX12_nextToken RX12 2 1 21 none) {t0 : Nat} (ht0 : zT t0 = (11, 0)) {r : zH} (hE : zE K G (none) r) (s0 : Int32) (h : zH) (hg : g_X12_nextToken_318 t0 s0 h = some r) : zW K G 2 318 [] [.int s0, .ref (G.2.2.2 t0)] h := by
  rw [g_X12_nextToken_318] at hg
  obtain ⟨h_44, eh_44, hg⟩ := zlet_some hg
  exact z_putI (pc := 318) hK f_X12_151_11 fp_11_6 ht0 dX12_nextToken_318 (z_nameH eh_44 (z_vretE (pc := 321) hK hE hg dX12_nextToken_321))
set_option maxRecDepth 100000 in
set_option maxHeartbeats 4000000 in
theorem b_X12_nextToken_299 {K : zK} {G : zG} (hK : zC K G cX12_nextToken RX12 2 1 21 none) {t0 : Nat} (ht0 : zT t0 = (11, 0)) {r : zH} (hE : zE K G (none) r) (h : zH) (hg : g_X12_nextToken_299 t0 h = some r) : zW K G 2 299 [(0, .ref (G.2.2.2 t0))] [] h := by
  rw [g_X12_nextToken_299] at hg
  refine z_aload_n (pc := 299) hK 0 dX12_nextToken_299 rfl (z_aload_n (pc := 300) hK 0 dX12_nextToken_300 rfl (z_getI (pc := 301) hK f_X12_138_11 ht0 dX12_nextToken_301 (z_aload_n (pc := 304) hK 0 dX12_nextToken_304 rfl (z_getI (pc := 305) hK f_X12_141_11 ht0 dX12_nextToken_305 (z_isub (pc := 308) hK dX12_nextToken_308 (z_iconst (pc := 309) hK dX12_nextToken_309 zc_i4 (z_icmp_le (pc := 310) hK 317 dX12_nextToken_310 (by decide) (fun c_40 => ?_) (fun c_40 => ?_))))))))
  · rw [if_pos c_40] at hg
    exact z_iconst (pc := 317) hK dX12_nextToken_317 zc_i2 (zsub (lv' := []) [] rfl (b_X12_nextToken_318 hK ht0 hE 2 h hg))
  · rw [if_neg c_40] at hg
    exact z_iconst (pc := 313) hK dX12_nextToken_313 zc_i4 (z_goto (pc := 314) hK 318 dX12_nextToken_314 (by decide) (zsub (lv' := []) [] rfl (b_X12_nextToken_318 hK ht0 hE 4 h hg)))
set_option maxRecDepth 100000 in
set_option maxHeartbeats 4000000 in
theorem b_X12_nextToken_286 {K : zK} {G : zG} (hK : zC K G cX12_nextToken RX12 2 1 21 none) {t0 : Nat} (ht0 : zT t0 = (11, 0)) {r : zH} (hE : zE K G (none) r) {k224 : zH → Option zH} (hk224 : ∀ (h : zH), k224 h = some r → zW K G 2 224 [(0, .ref (G.2.2.2 t0))] [] h) (h : zH) (hg : g_X12_nextToken_286 t0 k224 h = some r) : zW K G 2 286 [(0, .ref (G.2.2.2 t0))] [] h := by
  rw [g_X12_nextToken_286] at hg
  obtain ⟨h_41, eh_41, hg⟩ := zlet_some hg
  exact z_aload_n (pc := 286) hK 0 dX12_nextToken_286 rfl (z_dup (pc := 287) hK dX12_nextToken_287 rfl (z_getI (pc := 288) hK f_X12_138_11 ht0 dX12_nextToken_288 (z_iconst (pc := 291) hK dX12_nextToken_291 zc_i1 (z_iadd (pc := 292) hK dX12_nextToken_292 (z_putI (pc := 293) hK f_X12_138_11 fp_11_4 ht0 dX12_nextToken_293 (z_nameH eh_41 (z_goto (pc := 296) hK 224 dX12_nextToken_296 (by decide) (zsub (lv' := [(0, .ref (G.2.2.2 t0))]) [0] rfl (hk224 h_41 hg)))))))))
set_option maxRecDepth 100000 in
set_option maxHeartbeats 4000000 in
theorem b_X12_nextToken_224 {K : zK} {G : zG} (hK : zC K G cX12_nextToken RX12 2 1 21 none) {t0 : Nat} (ht0 : zT t0 = (11, 0)) {r : zH} (hE : zE K G (none) r) : ∀ (n : Nat) (h : zH), g_X12_nextToken_224 t0 n h = some r → zW K G 2 224 [(0, .ref (G.2.2.2 t0))] [] h := by
  intro n
  induction n with
  | zero => intro h hg; exact nomatch (show none = some r from hg)
  | succ n ih =>
    intro h hg
    rw [g_X12_nextToken_224] at hg
    obtain ⟨v_28, qv_28, hg⟩ := zbind_some hg
    refine z_aload_n (pc := 224) hK 0 dX12_nextToken_224 rfl (z_aload_n (pc := 225) hK 0 dX12_nextToken_225 rfl (z_getI (pc := 226) hK f_X12_138_11 ht0 dX12_nextToken_226 (z_callVi (pc := 229) hK [.int (h.1 t0 4)] (m_X12_signAt (zC_D hK) ht0 qv_28) sv_X12_signAt q_1478 ht0 rfl [] rfl (Nat.le_of_ble_eq_true rfl) ⟨by decide, by decide⟩ dX12_nextToken_229 (z_bipush (pc := 232) hK dX12_nextToken_232 zc_b48 (z_icmp_lt (pc := 234) hK 299 dX12_nextToken_234 (by decide) (fun c_29 => ?_) (fun c_29 => ?_))))))
    · rw [if_pos c_29] at hg
      exact zsub (lv' := [(0, .ref (G.2.2.2 t0))]) [0] rfl (b_X12_nextToken_299 hK ht0 hE h hg)
    · rw [if_neg c_29] at hg
      obtain ⟨v_30, qv_30, hg⟩ := zbind_some hg
      refine z_aload_n (pc := 237) hK 0 dX12_nextToken_237 rfl (z_aload_n (pc := 238) hK 0 dX12_nextToken_238 rfl (z_getI (pc := 239) hK f_X12_138_11 ht0 dX12_nextToken_239 (z_callVi (pc := 242) hK [.int (h.1 t0 4)] (m_X12_signAt (zC_D hK) ht0 qv_30) sv_X12_signAt q_1478 ht0 rfl [] rfl (Nat.le_of_ble_eq_true rfl) ⟨by decide, by decide⟩ dX12_nextToken_242 (z_bipush (pc := 245) hK dX12_nextToken_245 zc_b57 (z_icmp_gt (pc := 247) hK 299 dX12_nextToken_247 (by decide) (fun c_31 => ?_) (fun c_31 => ?_))))))
      · rw [if_pos c_31] at hg
        exact zsub (lv' := [(0, .ref (G.2.2.2 t0))]) [0] rfl (b_X12_nextToken_299 hK ht0 hE h hg)
      · rw [if_neg c_31] at hg
        refine z_aload_n (pc := 250) hK 0 dX12_nextToken_250 rfl (z_getI (pc := 251) hK f_X12_138_11 ht0 dX12_nextToken_251 (z_aload_n (pc := 254) hK 0 dX12_nextToken_254 rfl (z_getI (pc := 255) hK f_X12_141_11 ht0 dX12_nextToken_255 (z_isub (pc := 258) hK dX12_nextToken_258 (z_iconst (pc := 259) hK dX12_nextToken_259 zc_i4 (z_icmp_ge (pc := 260) hK 286 dX12_nextToken_260 (by decide) (fun c_32 => ?_) (fun c_32 => ?_)))))))
        · rw [if_pos c_32] at hg
          exact zsub (lv' := [(0, .ref (G.2.2.2 t0))]) [0] rfl (b_X12_nextToken_286 hK ht0 hE ih h hg)
        · rw [if_neg c_32] at hg
          obtain ⟨v_33, qv_33, hg⟩ := zbind_some hg
          obtain ⟨h_34, eh_34, hg⟩ := zlet_some hg
          exact z_aload_n (pc := 263) hK 0 dX12_nextToken_263 rfl (z_aload_n (pc := 264) hK 0 dX12_nextToken_264 rfl (z_getI (pc := 265) hK f_X12_148_11 ht0 dX12_nextToken_265 (z_bipush (pc := 268) hK dX12_nextToken_268 zc_b10 (z_imul (pc := 270) hK dX12_nextToken_270 (z_aload_n (pc := 271) hK 0 dX12_nextToken_271 rfl (z_aload_n (pc := 272) hK 0 dX12_nextToken_272 rfl (z_getI (pc := 273) hK f_X12_138_11 ht0 dX12_nextToken_273 (z_callVi (pc := 276) hK [.int (h.1 t0 4)] (m_X12_signAt (zC_D hK) ht0 qv_33) sv_X12_signAt q_1478 ht0 rfl [.int ((h.1 t0 8) * 10), .ref (G.2.2.2 t0)] rfl (Nat.le_of_ble_eq_true rfl) ⟨by decide, by decide⟩ dX12_nextToken_276 (z_iadd (pc := 279) hK dX12_nextToken_279 (z_bipush (pc := 280) hK dX12_nextToken_280 zc_b48 (z_isub (pc := 282) hK dX12_nextToken_282 (z_putI (pc := 283) hK f_X12_148_11 fp_11_8 ht0 dX12_nextToken_283 (z_nameH eh_34 (zsub (lv' := [(0, .ref (G.2.2.2 t0))]) [0] rfl (b_X12_nextToken_286 hK ht0 hE ih h_34 hg)))))))))))))))
set_option maxRecDepth 100000 in
set_option maxHeartbeats 4000000 in
theorem b_X12_nextToken_368 {K : zK} {G : zG} (hK : zC K G cX12_nextToken RX12 2 1 21 none) {t0 : Nat} (ht0 : zT t0 = (11, 0)) {r : zH} (hE : zE K G (none) r) (s0 : Int32) (h : zH) (hg : g_X12_nextToken_368 t0 s0 h = some r) : zW K G 2 368 [] [.int s0, .ref (G.2.2.2 t0)] h := by
  rw [g_X12_nextToken_368] at hg
  obtain ⟨h_43, eh_43, hg⟩ := zlet_some hg
  exact z_putI (pc := 368) hK f_X12_151_11 fp_11_6 ht0 dX12_nextToken_368 (z_nameH eh_43 (z_vretE (pc := 371) hK hE hg dX12_nextToken_371))
set_option maxRecDepth 100000 in
set_option maxHeartbeats 4000000 in
theorem b_X12_nextToken_363 {K : zK} {G : zG} (hK : zC K G cX12_nextToken RX12 2 1 21 none) {t0 : Nat} (ht0 : zT t0 = (11, 0)) {r : zH} (hE : zE K G (none) r) (h : zH) (hg : g_X12_nextToken_363 t0 h = some r) : zW K G 2 363 [] [.ref (G.2.2.2 t0)] h := by
  rw [g_X12_nextToken_363] at hg
  exact z_iconst (pc := 363) hK dX12_nextToken_363 zc_i3 (z_goto (pc := 364) hK 368 dX12_nextToken_364 (by decide) (zsub (lv' := []) [] rfl (b_X12_nextToken_368 hK ht0 hE 3 h hg)))
set_option maxRecDepth 100000 in
set_option maxHeartbeats 4000000 in
theorem b_X12_nextToken_367 {K : zK} {G : zG} (hK : zC K G cX12_nextToken RX12 2 1 21 none) {t0 : Nat} (ht0 : zT t0 = (11, 0)) {r : zH} (hE : zE K G (none) r) (h : zH) (hg : g_X12_nextToken_367 t0 h = some r) : zW K G 2 367 [] [.ref (G.2.2.2 t0)] h := by
  rw [g_X12_nextToken_367] at hg
  exact z_iconst (pc := 367) hK dX12_nextToken_367 zc_i4 (zsub (lv' := []) [] rfl (b_X12_nextToken_368 hK ht0 hE 4 h hg))
set_option maxRecDepth 100000 in
set_option maxHeartbeats 4000000 in
theorem b_X12_nextToken_345 {K : zK} {G : zG} (hK : zC K G cX12_nextToken RX12 2 1 21 none) {t0 : Nat} (ht0 : zT t0 = (11, 0)) {r : zH} (hE : zE K G (none) r) (x1 : Int32) (h : zH) (hg : g_X12_nextToken_345 t0 x1 h = some r) : zW K G 2 345 [(1, .int x1)] [.ref (G.2.2.2 t0)] h := by
  rw [g_X12_nextToken_345] at hg
  refine z_iload_n (pc := 345) hK 0 dX12_nextToken_345 rfl (z_bipush (pc := 346) hK dX12_nextToken_346 zc_b45 (z_icmp_eq (pc := 348) hK 363 dX12_nextToken_348 (by decide) (fun c_37 => ?_) (fun c_37 => ?_)))
  · rw [if_pos c_37] at hg
    exact zsub (lv' := []) [] rfl (b_X12_nextToken_363 hK ht0 hE h hg)
  · rw [if_neg c_37] at hg
    refine z_iload_n (pc := 351) hK 0 dX12_nextToken_351 rfl (z_bipush (pc := 352) hK dX12_nextToken_352 zc_b59 (z_icmp_lt (pc := 354) hK 367 dX12_nextToken_354 (by decide) (fun c_38 => ?_) (fun c_38 => ?_)))
    · rw [if_pos c_38] at hg
      exact zsub (lv' := []) [] rfl (b_X12_nextToken_367 hK ht0 hE h hg)
    · rw [if_neg c_38] at hg
      refine z_iload_n (pc := 357) hK 0 dX12_nextToken_357 rfl (z_bipush (pc := 358) hK dX12_nextToken_358 zc_b61 (z_icmp_gt (pc := 360) hK 367 dX12_nextToken_360 (by decide) (fun c_39 => ?_) (fun c_39 => ?_)))
      · rw [if_pos c_39] at hg
        exact zsub (lv' := []) [] rfl (b_X12_nextToken_367 hK ht0 hE h hg)
      · rw [if_neg c_39] at hg
        exact zsub (lv' := []) [] rfl (b_X12_nextToken_363 hK ht0 hE h hg)
set_option maxRecDepth 100000 in
set_option maxHeartbeats 4000000 in
theorem b_X12_nextToken_322 {K : zK} {G : zG} (hK : zC K G cX12_nextToken RX12 2 1 21 none) {t0 : Nat} (ht0 : zT t0 = (11, 0)) {r : zH} (hE : zE K G (none) r) (x1 : Int32) (h : zH) (hg : g_X12_nextToken_322 t0 x1 h = some r) : zW K G 2 322 [(0, .ref (G.2.2.2 t0)), (1, .int x1)] [] h := by
  rw [g_X12_nextToken_322] at hg
  obtain ⟨h_25, eh_25, hg⟩ := zlet_some hg
  refine z_aload_n (pc := 322) hK 0 dX12_nextToken_322 rfl (z_dup (pc := 323) hK dX12_nextToken_323 rfl (z_getI (pc := 324) hK f_X12_138_11 ht0 dX12_nextToken_324 (z_iconst (pc := 327) hK dX12_nextToken_327 zc_i1 (z_iadd (pc := 328) hK dX12_nextToken_328 (z_putI (pc := 329) hK f_X12_138_11 fp_11_4 ht0 dX12_nextToken_329 (z_nameH eh_25 (z_aload_n (pc := 332) hK 0 dX12_nextToken_332 rfl (z_iload_n (pc := 333) hK 1 dX12_nextToken_333 rfl (z_bipush (pc := 334) hK dX12_nextToken_334 zc_b40 (z_icmp_lt (pc := 336) hK 345 dX12_nextToken_336 (by decide) (fun c_26 => ?_) (fun c_26 => ?_)))))))))))
  · rw [if_pos c_26] at hg
    exact zsub (lv' := [(1, .int x1)]) [1] rfl (b_X12_nextToken_345 hK ht0 hE x1 h_25 hg)
  · rw [if_neg c_26] at hg
    refine z_iload_n (pc := 339) hK 1 dX12_nextToken_339 rfl (z_bipush (pc := 340) hK dX12_nextToken_340 zc_b43 (z_icmp_le (pc := 342) hK 363 dX12_nextToken_342 (by decide) (fun c_27 => ?_) (fun c_27 => ?_)))
    · rw [if_pos c_27] at hg
      exact zsub (lv' := []) [] rfl (b_X12_nextToken_363 hK ht0 hE h_25 hg)
    · rw [if_neg c_27] at hg
      exact zsub (lv' := [(1, .int x1)]) [1] rfl (b_X12_nextToken_345 hK ht0 hE x1 h_25 hg)
set_option maxRecDepth 100000 in
set_option maxHeartbeats 4000000 in
theorem b_X12_nextToken_212 {K : zK} {G : zG} (hK : zC K G cX12_nextToken RX12 2 1 21 none) {t0 : Nat} (ht0 : zT t0 = (11, 0)) {r : zH} (hE : zE K G (none) r) (x1 : Int32) (h : zH) (hg : g_X12_nextToken_212 t0 x1 h = some r) : zW K G 2 212 [(0, .ref (G.2.2.2 t0)), (1, .int x1)] [] h := by
  rw [g_X12_nextToken_212] at hg
  refine z_iload_n (pc := 212) hK 1 dX12_nextToken_212 rfl (z_bipush (pc := 213) hK dX12_nextToken_213 zc_b48 (z_icmp_lt (pc := 215) hK 322 dX12_nextToken_215 (by decide) (fun c_16 => ?_) (fun c_16 => ?_)))
  · rw [if_pos c_16] at hg
    exact zsub (lv' := [(0, .ref (G.2.2.2 t0)), (1, .int x1)]) [0, 1] rfl (b_X12_nextToken_322 hK ht0 hE x1 h hg)
  · rw [if_neg c_16] at hg
    refine z_iload_n (pc := 218) hK 1 dX12_nextToken_218 rfl (z_bipush (pc := 219) hK dX12_nextToken_219 zc_b57 (z_icmp_gt (pc := 221) hK 322 dX12_nextToken_221 (by decide) (fun c_17 => ?_) (fun c_17 => ?_)))
    · rw [if_pos c_17] at hg
      exact zsub (lv' := [(0, .ref (G.2.2.2 t0)), (1, .int x1)]) [0, 1] rfl (b_X12_nextToken_322 hK ht0 hE x1 h hg)
    · rw [if_neg c_17] at hg
      exact zsub (lv' := [(0, .ref (G.2.2.2 t0))]) [0] rfl (b_X12_nextToken_224 hK ht0 hE zfu h hg)
set_option maxRecDepth 100000 in
set_option maxHeartbeats 4000000 in
theorem b_X12_nextToken_208 {K : zK} {G : zG} (hK : zC K G cX12_nextToken RX12 2 1 21 none) {t0 : Nat} (ht0 : zT t0 = (11, 0)) {r : zH} (hE : zE K G (none) r) (s0 : Int32) (h : zH) (hg : g_X12_nextToken_208 t0 s0 h = some r) : zW K G 2 208 [] [.int s0, .ref (G.2.2.2 t0)] h := by
  rw [g_X12_nextToken_208] at hg
  obtain ⟨h_42, eh_42, hg⟩ := zlet_some hg
  exact z_putI (pc := 208) hK f_X12_151_11 fp_11_6 ht0 dX12_nextToken_208 (z_nameH eh_42 (z_vretE (pc := 211) hK hE hg dX12_nextToken_211))
set_option maxRecDepth 100000 in
set_option maxHeartbeats 4000000 in
theorem b_X12_nextToken_188 {K : zK} {G : zG} (hK : zC K G cX12_nextToken RX12 2 1 21 none) {t0 : Nat} (ht0 : zT t0 = (11, 0)) {r : zH} (hE : zE K G (none) r) (h : zH) (hg : g_X12_nextToken_188 t0 h = some r) : zW K G 2 188 [(0, .ref (G.2.2.2 t0))] [] h := by
  rw [g_X12_nextToken_188] at hg
  refine z_aload_n (pc := 188) hK 0 dX12_nextToken_188 rfl (z_aload_n (pc := 189) hK 0 dX12_nextToken_189 rfl (z_getI (pc := 190) hK f_X12_138_11 ht0 dX12_nextToken_190 (z_aload_n (pc := 193) hK 0 dX12_nextToken_193 rfl (z_getI (pc := 194) hK f_X12_141_11 ht0 dX12_nextToken_194 (z_isub (pc := 197) hK dX12_nextToken_197 (z_bipush (pc := 198) hK dX12_nextToken_198 zc_b8 (z_icmp_le (pc := 200) hK 207 dX12_nextToken_200 (by decide) (fun c_35 => ?_) (fun c_35 => ?_))))))))
  · rw [if_pos c_35] at hg
    exact z_iconst (pc := 207) hK dX12_nextToken_207 zc_i1 (zsub (lv' := []) [] rfl (b_X12_nextToken_208 hK ht0 hE 1 h hg))
  · rw [if_neg c_35] at hg
    exact z_iconst (pc := 203) hK dX12_nextToken_203 zc_i4 (z_goto (pc := 204) hK 208 dX12_nextToken_204 (by decide) (zsub (lv' := []) [] rfl (b_X12_nextToken_208 hK ht0 hE 4 h hg)))
set_option maxRecDepth 100000 in
set_option maxHeartbeats 4000000 in
theorem b_X12_nextToken_175 {K : zK} {G : zG} (hK : zC K G cX12_nextToken RX12 2 1 21 none) {t0 : Nat} (ht0 : zT t0 = (11, 0)) {r : zH} (hE : zE K G (none) r) {k109 : zH → Option zH} (hk109 : ∀ (h : zH), k109 h = some r → zW K G 2 109 [(0, .ref (G.2.2.2 t0))] [] h) (h : zH) (hg : g_X12_nextToken_175 t0 k109 h = some r) : zW K G 2 175 [(0, .ref (G.2.2.2 t0))] [] h := by
  rw [g_X12_nextToken_175] at hg
  obtain ⟨h_36, eh_36, hg⟩ := zlet_some hg
  exact z_aload_n (pc := 175) hK 0 dX12_nextToken_175 rfl (z_dup (pc := 176) hK dX12_nextToken_176 rfl (z_getI (pc := 177) hK f_X12_138_11 ht0 dX12_nextToken_177 (z_iconst (pc := 180) hK dX12_nextToken_180 zc_i1 (z_iadd (pc := 181) hK dX12_nextToken_181 (z_putI (pc := 182) hK f_X12_138_11 fp_11_4 ht0 dX12_nextToken_182 (z_nameH eh_36 (z_goto (pc := 185) hK 109 dX12_nextToken_185 (by decide) (zsub (lv' := [(0, .ref (G.2.2.2 t0))]) [0] rfl (hk109 h_36 hg)))))))))
set_option maxRecDepth 100000 in
set_option maxHeartbeats 4000000 in
theorem b_X12_nextToken_109 {K : zK} {G : zG} (hK : zC K G cX12_nextToken RX12 2 1 21 none) {t0 : Nat} (ht0 : zT t0 = (11, 0)) {r : zH} (hE : zE K G (none) r) : ∀ (n : Nat) (h : zH), g_X12_nextToken_109 t0 n h = some r → zW K G 2 109 [(0, .ref (G.2.2.2 t0))] [] h := by
  intro n
  induction n with
  | zero => intro h hg; exact nomatch (show none = some r from hg)
  | succ n ih =>
    intro h hg
    rw [g_X12_nextToken_109] at hg
    obtain ⟨v_18, qv_18, hg⟩ := zbind_some hg
    refine z_aload_n (pc := 109) hK 0 dX12_nextToken_109 rfl (z_aload_n (pc := 110) hK 0 dX12_nextToken_110 rfl (z_getI (pc := 111) hK f_X12_138_11 ht0 dX12_nextToken_111 (z_callVi (pc := 114) hK [.int (h.1 t0 4)] (m_X12_signAt (zC_D hK) ht0 qv_18) sv_X12_signAt q_1478 ht0 rfl [] rfl (Nat.le_of_ble_eq_true rfl) ⟨by decide, by decide⟩ dX12_nextToken_114 (z_bipush (pc := 117) hK dX12_nextToken_117 zc_b97 (z_icmp_lt (pc := 119) hK 188 dX12_nextToken_119 (by decide) (fun c_19 => ?_) (fun c_19 => ?_))))))
    · rw [if_pos c_19] at hg
      exact zsub (lv' := [(0, .ref (G.2.2.2 t0))]) [0] rfl (b_X12_nextToken_188 hK ht0 hE h hg)
    · rw [if_neg c_19] at hg
      obtain ⟨v_20, qv_20, hg⟩ := zbind_some hg
      refine z_aload_n (pc := 122) hK 0 dX12_nextToken_122 rfl (z_aload_n (pc := 123) hK 0 dX12_nextToken_123 rfl (z_getI (pc := 124) hK f_X12_138_11 ht0 dX12_nextToken_124 (z_callVi (pc := 127) hK [.int (h.1 t0 4)] (m_X12_signAt (zC_D hK) ht0 qv_20) sv_X12_signAt q_1478 ht0 rfl [] rfl (Nat.le_of_ble_eq_true rfl) ⟨by decide, by decide⟩ dX12_nextToken_127 (z_bipush (pc := 130) hK dX12_nextToken_130 zc_b122 (z_icmp_gt (pc := 132) hK 188 dX12_nextToken_132 (by decide) (fun c_21 => ?_) (fun c_21 => ?_))))))
      · rw [if_pos c_21] at hg
        exact zsub (lv' := [(0, .ref (G.2.2.2 t0))]) [0] rfl (b_X12_nextToken_188 hK ht0 hE h hg)
      · rw [if_neg c_21] at hg
        refine z_aload_n (pc := 135) hK 0 dX12_nextToken_135 rfl (z_getI (pc := 136) hK f_X12_138_11 ht0 dX12_nextToken_136 (z_aload_n (pc := 139) hK 0 dX12_nextToken_139 rfl (z_getI (pc := 140) hK f_X12_141_11 ht0 dX12_nextToken_140 (z_isub (pc := 143) hK dX12_nextToken_143 (z_bipush (pc := 144) hK dX12_nextToken_144 zc_b8 (z_icmp_ge (pc := 146) hK 175 dX12_nextToken_146 (by decide) (fun c_22 => ?_) (fun c_22 => ?_)))))))
        · rw [if_pos c_22] at hg
          exact zsub (lv' := [(0, .ref (G.2.2.2 t0))]) [0] rfl (b_X12_nextToken_175 hK ht0 hE ih h hg)
        · rw [if_neg c_22] at hg
          obtain ⟨v_23, qv_23, hg⟩ := zbind_some hg
          obtain ⟨h_24, eh_24, hg⟩ := zlet_some hg
          exact z_aload_n (pc := 149) hK 0 dX12_nextToken_149 rfl (z_aload_n (pc := 150) hK 0 dX12_nextToken_150 rfl (z_getL (pc := 151) hK f_X12_144_11 ht0 dX12_nextToken_151 (z_ldc2 (pc := 154) hK q_1482 dX12_nextToken_154 (z_lmul (pc := 157) hK dX12_nextToken_157 (z_aload_n (pc := 158) hK 0 dX12_nextToken_158 rfl (z_aload_n (pc := 159) hK 0 dX12_nextToken_159 rfl (z_getI (pc := 160) hK f_X12_138_11 ht0 dX12_nextToken_160 (z_callVi (pc := 163) hK [.int (h.1 t0 4)] (m_X12_signAt (zC_D hK) ht0 qv_23) sv_X12_signAt q_1478 ht0 rfl [.long ((h.2 t0 7) * 27), .ref (G.2.2.2 t0)] rfl (Nat.le_of_ble_eq_true rfl) ⟨by decide, by decide⟩ dX12_nextToken_163 (z_i2l (pc := 166) hK dX12_nextToken_166 rfl (z_ladd (pc := 167) hK dX12_nextToken_167 (z_ldc2 (pc := 168) hK q_1483 dX12_nextToken_168 (z_lsub (pc := 171) hK dX12_nextToken_171 (z_putL (pc := 172) hK f_X12_144_11 fp_11_7 ht0 dX12_nextToken_172 (z_nameH eh_24 (zsub (lv' := [(0, .ref (G.2.2.2 t0))]) [0] rfl (b_X12_nextToken_175 hK ht0 hE ih h_24 hg))))))))))))))))
set_option maxRecDepth 100000 in
set_option maxHeartbeats 4000000 in
theorem b_X12_nextToken_52 {K : zK} {G : zG} (hK : zC K G cX12_nextToken RX12 2 1 21 none) {t0 : Nat} (ht0 : zT t0 = (11, 0)) {r : zH} (hE : zE K G (none) r) (h : zH) (hg : g_X12_nextToken_52 t0 h = some r) : zW K G 2 52 [(0, .ref (G.2.2.2 t0))] [] h := by
  rw [g_X12_nextToken_52] at hg
  obtain ⟨h_6, eh_6, hg⟩ := zlet_some hg
  obtain ⟨h_7, eh_7, hg⟩ := zlet_some hg
  obtain ⟨h_8, eh_8, hg⟩ := zlet_some hg
  refine z_aload_n (pc := 52) hK 0 dX12_nextToken_52 rfl (z_aload_n (pc := 53) hK 0 dX12_nextToken_53 rfl (z_getI (pc := 54) hK f_X12_138_11 ht0 dX12_nextToken_54 (z_putI (pc := 57) hK f_X12_141_11 fp_11_5 ht0 dX12_nextToken_57 (z_nameH eh_6 (z_aload_n (pc := 60) hK 0 dX12_nextToken_60 rfl (z_lconst (pc := 61) hK dX12_nextToken_61 zc_l0 (z_putL (pc := 62) hK f_X12_144_11 fp_11_7 ht0 dX12_nextToken_62 (z_nameH eh_7 (z_aload_n (pc := 65) hK 0 dX12_nextToken_65 rfl (z_iconst (pc := 66) hK dX12_nextToken_66 zc_i0 (z_putI (pc := 67) hK f_X12_148_11 fp_11_8 ht0 dX12_nextToken_67 (z_nameH eh_8 (z_aload_n (pc := 70) hK 0 dX12_nextToken_70 rfl (z_getI (pc := 71) hK f_X12_138_11 ht0 dX12_nextToken_71 (z_aload_n (pc := 74) hK 0 dX12_nextToken_74 rfl (z_getI (pc := 75) hK f_X12_135_11 ht0 dX12_nextToken_75 (z_icmp_ne (pc := 78) hK 87 dX12_nextToken_78 (by decide) (fun c_9 => ?_) (fun c_9 => ?_))))))))))))))))))
  · rw [if_neg c_9] at hg
    obtain ⟨c_10, hg⟩ := zgu_some hg
    obtain ⟨v_11, ev_11, hg⟩ := zlet_some hg
    refine z_aload_n (pc := 87) hK 0 dX12_nextToken_87 rfl (z_getR (pc := 88) hK f_X12_7_11 ht0 dX12_nextToken_88 (z_aload_n (pc := 91) hK 0 dX12_nextToken_91 rfl (z_getI (pc := 92) hK f_X12_138_11 ht0 dX12_nextToken_92 (z_iald (pc := 95) hK (zt_11_2 ht0) c_10 dX12_nextToken_95 (z_nameI ev_11 (z_istore_n (pc := 96) hK (lv' := [(1, .int v_11), (0, .ref (G.2.2.2 t0))]) dX12_nextToken_96 (by decide) rfl (z_iload_n (pc := 97) hK 0 dX12_nextToken_97 rfl (z_bipush (pc := 98) hK dX12_nextToken_98 zc_b97 (z_icmp_lt (pc := 100) hK 212 dX12_nextToken_100 (by decide) (fun c_12 => ?_) (fun c_12 => ?_))))))))))
    · rw [if_pos c_12] at hg
      exact zsub (lv' := [(0, .ref (G.2.2.2 t0)), (1, .int v_11)]) [1, 0] rfl (b_X12_nextToken_212 hK ht0 hE v_11 h_8 hg)
    · rw [if_neg c_12] at hg
      refine z_iload_n (pc := 103) hK 0 dX12_nextToken_103 rfl (z_bipush (pc := 104) hK dX12_nextToken_104 zc_b122 (z_icmp_gt (pc := 106) hK 212 dX12_nextToken_106 (by decide) (fun c_13 => ?_) (fun c_13 => ?_)))
      · rw [if_pos c_13] at hg
        exact zsub (lv' := [(0, .ref (G.2.2.2 t0)), (1, .int v_11)]) [1, 0] rfl (b_X12_nextToken_212 hK ht0 hE v_11 h_8 hg)
      · rw [if_neg c_13] at hg
        exact zsub (lv' := [(0, .ref (G.2.2.2 t0))]) [1] rfl (b_X12_nextToken_109 hK ht0 hE zfu h_8 hg)
  · rw [if_pos c_9] at hg
    obtain ⟨h_14, eh_14, hg⟩ := zlet_some hg
    exact z_aload_n (pc := 81) hK 0 dX12_nextToken_81 rfl (z_iconst (pc := 82) hK dX12_nextToken_82 zc_i0 (z_putI (pc := 83) hK f_X12_151_11 fp_11_6 ht0 dX12_nextToken_83 (z_nameH eh_14 (z_vretE (pc := 86) hK hE hg dX12_nextToken_86))))
set_option maxRecDepth 100000 in
set_option maxHeartbeats 4000000 in
theorem b_X12_nextToken_39 {K : zK} {G : zG} (hK : zC K G cX12_nextToken RX12 2 1 21 none) {t0 : Nat} (ht0 : zT t0 = (11, 0)) {r : zH} (hE : zE K G (none) r) {k0 : zH → Option zH} (hk0 : ∀ (h : zH), k0 h = some r → zW K G 2 0 [(0, .ref (G.2.2.2 t0))] [] h) (h : zH) (hg : g_X12_nextToken_39 t0 k0 h = some r) : zW K G 2 39 [(0, .ref (G.2.2.2 t0))] [] h := by
  rw [g_X12_nextToken_39] at hg
  obtain ⟨h_15, eh_15, hg⟩ := zlet_some hg
  exact z_aload_n (pc := 39) hK 0 dX12_nextToken_39 rfl (z_dup (pc := 40) hK dX12_nextToken_40 rfl (z_getI (pc := 41) hK f_X12_138_11 ht0 dX12_nextToken_41 (z_iconst (pc := 44) hK dX12_nextToken_44 zc_i1 (z_iadd (pc := 45) hK dX12_nextToken_45 (z_putI (pc := 46) hK f_X12_138_11 fp_11_4 ht0 dX12_nextToken_46 (z_nameH eh_15 (z_goto (pc := 49) hK 0 dX12_nextToken_49 (by decide) (zsub (lv' := [(0, .ref (G.2.2.2 t0))]) [0] rfl (hk0 h_15 hg)))))))))
set_option maxRecDepth 100000 in
set_option maxHeartbeats 4000000 in
theorem b_X12_nextToken_0 {K : zK} {G : zG} (hK : zC K G cX12_nextToken RX12 2 1 21 none) {t0 : Nat} (ht0 : zT t0 = (11, 0)) {r : zH} (hE : zE K G (none) r) : ∀ (n : Nat) (h : zH), g_X12_nextToken_0 t0 n h = some r → zW K G 2 0 [(0, .ref (G.2.2.2 t0))] [] h := by
  intro n
  induction n with
  | zero => intro h hg; exact nomatch (show none = some r from hg)
  | succ n ih =>
    intro h hg
    rw [g_X12_nextToken_0] at hg
    refine z_aload_n (pc := 0) hK 0 dX12_nextToken_0 rfl (z_getI (pc := 1) hK f_X12_138_11 ht0 dX12_nextToken_1 (z_aload_n (pc := 4) hK 0 dX12_nextToken_4 rfl (z_getI (pc := 5) hK f_X12_135_11 ht0 dX12_nextToken_5 (z_icmp_ge (pc := 8) hK 52 dX12_nextToken_8 (by decide) (fun c_1 => ?_) (fun c_1 => ?_)))))
    · rw [if_pos c_1] at hg
      exact zsub (lv' := [(0, .ref (G.2.2.2 t0))]) [0] rfl (b_X12_nextToken_52 hK ht0 hE h hg)
    · rw [if_neg c_1] at hg
      obtain ⟨c_2, hg⟩ := zgu_some hg
      refine z_aload_n (pc := 11) hK 0 dX12_nextToken_11 rfl (z_getR (pc := 12) hK f_X12_7_11 ht0 dX12_nextToken_12 (z_aload_n (pc := 15) hK 0 dX12_nextToken_15 rfl (z_getI (pc := 16) hK f_X12_138_11 ht0 dX12_nextToken_16 (z_iald (pc := 19) hK (zt_11_2 ht0) c_2 dX12_nextToken_19 (z_bipush (pc := 20) hK dX12_nextToken_20 zc_b32 (z_icmp_eq (pc := 22) hK 39 dX12_nextToken_22 (by decide) (fun c_3 => ?_) (fun c_3 => ?_)))))))
      · rw [if_pos c_3] at hg
        exact zsub (lv' := [(0, .ref (G.2.2.2 t0))]) [0] rfl (b_X12_nextToken_39 hK ht0 hE ih h hg)
      · rw [if_neg c_3] at hg
        obtain ⟨c_4, hg⟩ := zgu_some hg
        refine z_aload_n (pc := 25) hK 0 dX12_nextToken_25 rfl (z_getR (pc := 26) hK f_X12_7_11 ht0 dX12_nextToken_26 (z_aload_n (pc := 29) hK 0 dX12_nextToken_29 rfl (z_getI (pc := 30) hK f_X12_138_11 ht0 dX12_nextToken_30 (z_iald (pc := 33) hK (zt_11_2 ht0) c_4 dX12_nextToken_33 (z_bipush (pc := 34) hK dX12_nextToken_34 zc_b10 (z_icmp_ne (pc := 36) hK 52 dX12_nextToken_36 (by decide) (fun c_5 => ?_) (fun c_5 => ?_)))))))
        · rw [if_neg c_5] at hg
          exact zsub (lv' := [(0, .ref (G.2.2.2 t0))]) [0] rfl (b_X12_nextToken_52 hK ht0 hE h hg)
        · rw [if_pos c_5] at hg
          exact zsub (lv' := [(0, .ref (G.2.2.2 t0))]) [0] rfl (b_X12_nextToken_39 hK ht0 hE ih h hg)
set_option maxRecDepth 100000 in
set_option maxHeartbeats 4000000 in
theorem b_X12_nextToken {K : zK} {G : zG} (hK : zC K G cX12_nextToken RX12 2 1 21 none) {h : zH} {t0 : Nat} (ht0 : zT t0 = (11, 0)) {r : zH} (hE : zE K G (none) r) (hg : g_X12_nextToken h t0 = some r) : zW K G 2 0 [(0, .ref (G.2.2.2 t0))] [] h := by
  rw [g_X12_nextToken] at hg
  exact zsub (lv' := [(0, .ref (G.2.2.2 t0))]) [0] rfl (b_X12_nextToken_0 hK ht0 hE zfu h hg)
theorem m_X12_nextToken {l : Launch} {G : zG} (hG : zD G) {h : zH} {t0 : Nat} (ht0 : zT t0 = (11, 0)) {r : zH} (hg : g_X12_nextToken h t0 = some r) : zM l G yX12_nextToken cX12_nextToken 2 none 1 21 [.ref (G.2.2.2 t0)] h (none) r :=
  zM_of hG pn_X12 (Nat.le_of_ble_eq_true rfl) (fun K _ hK hE => b_X12_nextToken hK ht0 hE hg)
theorem dX12_isWord_0 : decode cX12_isWord 0 = .ok (.aload_n 0, 1) := by decide +kernel
theorem dX12_isWord_1 : decode cX12_isWord 1 = .ok (.getfield 151, 3) := by decide +kernel
theorem dX12_isWord_4 : decode cX12_isWord 4 = .ok (.iconst 1, 1) := by decide +kernel
theorem dX12_isWord_5 : decode cX12_isWord 5 = .ok (.if_icmp .ne 16, 3) := by decide +kernel
theorem dX12_isWord_8 : decode cX12_isWord 8 = .ok (.aload_n 0, 1) := by decide +kernel
theorem dX12_isWord_9 : decode cX12_isWord 9 = .ok (.getfield 144, 3) := by decide +kernel
theorem dX12_isWord_12 : decode cX12_isWord 12 = .ok (.lload_n 1, 1) := by decide +kernel
theorem dX12_isWord_13 : decode cX12_isWord 13 = .ok (.lcmp, 1) := by decide +kernel
theorem dX12_isWord_14 : decode cX12_isWord 14 = .ok (.ifCond .ne 7, 3) := by decide +kernel
theorem dX12_isWord_17 : decode cX12_isWord 17 = .ok (.iconst 1, 1) := by decide +kernel
theorem dX12_isWord_18 : decode cX12_isWord 18 = .ok (.goto 4, 3) := by decide +kernel
theorem dX12_isWord_21 : decode cX12_isWord 21 = .ok (.iconst 0, 1) := by decide +kernel
theorem dX12_isWord_22 : decode cX12_isWord 22 = .ok (.ireturn, 1) := by decide +kernel
def g_X12_isWord (h : zH) (t0 : Nat) (x1 : Int64) : Option Bool := if (h.1 t0 6) = 1 then (if (lg_cmp (h.2 t0 7) x1) = 0 then (some true) else (some false)) else (some false)
set_option maxRecDepth 100000 in
set_option maxHeartbeats 4000000 in
theorem b_X12_isWord {K : zK} {G : zG} (hK : zC K G cX12_isWord RX12 3 0 0 (some .boolean)) {h : zH} {t0 : Nat} {x1 : Int64} (ht0 : zT t0 = (11, 0)) {r : Bool} (hE : zE K G (some (.int (zb r))) h) (hg : g_X12_isWord h t0 x1 = some r) : zW K G 3 0 [(0, .ref (G.2.2.2 t0)), (1, .long x1)] [] h := by
  rw [g_X12_isWord] at hg
  refine z_aload_n (pc := 0) hK 0 dX12_isWord_0 rfl (z_getI (pc := 1) hK f_X12_151_11 ht0 dX12_isWord_1 (z_iconst (pc := 4) hK dX12_isWord_4 zc_i1 (z_icmp_ne (pc := 5) hK 21 dX12_isWord_5 (by decide) (fun c_1 => ?_) (fun c_1 => ?_))))
  · rw [if_neg c_1] at hg
    exact z_iconst (pc := 21) hK dX12_isWord_21 zc_i0 (z_zretP (pc := 22) hK rfl hE hg dX12_isWord_22)
  · rw [if_pos c_1] at hg
    refine z_aload_n (pc := 8) hK 0 dX12_isWord_8 rfl (z_getL (pc := 9) hK f_X12_144_11 ht0 dX12_isWord_9 (z_lload_n (pc := 12) hK 1 dX12_isWord_12 rfl (z_lcmp (pc := 13) hK dX12_isWord_13 (z_if_ne (pc := 14) hK 21 dX12_isWord_14 (by decide) (fun c_2 => ?_) (fun c_2 => ?_)))))
    · rw [if_neg c_2] at hg
      exact z_iconst (pc := 21) hK dX12_isWord_21 zc_i0 (z_zretP (pc := 22) hK rfl hE hg dX12_isWord_22)
    · rw [if_pos c_2] at hg
      exact z_iconst (pc := 17) hK dX12_isWord_17 zc_i1 (z_goto (pc := 18) hK 22 dX12_isWord_18 (by decide) (z_zretP (pc := 22) hK rfl hE hg dX12_isWord_22))
theorem m_X12_isWord {l : Launch} {G : zG} (hG : zD G) {h : zH} {t0 : Nat} {x1 : Int64} (ht0 : zT t0 = (11, 0)) {r : Bool} (hg : g_X12_isWord h t0 x1 = some r) : zM l G yX12_isWord cX12_isWord 3 (some .boolean) 0 0 [.ref (G.2.2.2 t0), .long x1] h (some (.int (zb r))) h :=
  zM_of hG pn_X12 (Nat.le_of_ble_eq_true rfl) (fun K _ hK hE => b_X12_isWord hK ht0 hE hg)
theorem dX12_isSign_0 : decode cX12_isSign 0 = .ok (.aload_n 0, 1) := by decide +kernel
theorem dX12_isSign_1 : decode cX12_isSign 1 = .ok (.getfield 151, 3) := by decide +kernel
theorem dX12_isSign_4 : decode cX12_isSign 4 = .ok (.iconst 3, 1) := by decide +kernel
theorem dX12_isSign_5 : decode cX12_isSign 5 = .ok (.if_icmp .ne 20, 3) := by decide +kernel
theorem dX12_isSign_8 : decode cX12_isSign 8 = .ok (.aload_n 0, 1) := by decide +kernel
theorem dX12_isSign_9 : decode cX12_isSign 9 = .ok (.getfield 7, 3) := by decide +kernel
theorem dX12_isSign_12 : decode cX12_isSign 12 = .ok (.aload_n 0, 1) := by decide +kernel
theorem dX12_isSign_13 : decode cX12_isSign 13 = .ok (.getfield 141, 3) := by decide +kernel
theorem dX12_isSign_16 : decode cX12_isSign 16 = .ok (.iaload, 1) := by decide +kernel
theorem dX12_isSign_17 : decode cX12_isSign 17 = .ok (.iload_n 1, 1) := by decide +kernel
theorem dX12_isSign_18 : decode cX12_isSign 18 = .ok (.if_icmp .ne 7, 3) := by decide +kernel
theorem dX12_isSign_21 : decode cX12_isSign 21 = .ok (.iconst 1, 1) := by decide +kernel
theorem dX12_isSign_22 : decode cX12_isSign 22 = .ok (.goto 4, 3) := by decide +kernel
theorem dX12_isSign_25 : decode cX12_isSign 25 = .ok (.iconst 0, 1) := by decide +kernel
theorem dX12_isSign_26 : decode cX12_isSign 26 = .ok (.ireturn, 1) := by decide +kernel
def g_X12_isSign (h : zH) (t0 : Nat) (x1 : Int32) : Option Bool := if (h.1 t0 6) = 3 then (zgu (zin (h.1 t0 5) 1000) <| if (h.1 (zR t0 2) (zx (h.1 t0 5))) = x1 then (some true) else (some false)) else (some false)
set_option maxRecDepth 100000 in
set_option maxHeartbeats 4000000 in
theorem b_X12_isSign {K : zK} {G : zG} (hK : zC K G cX12_isSign RX12 2 0 0 (some .boolean)) {h : zH} {t0 : Nat} {x1 : Int32} (ht0 : zT t0 = (11, 0)) {r : Bool} (hE : zE K G (some (.int (zb r))) h) (hg : g_X12_isSign h t0 x1 = some r) : zW K G 2 0 [(0, .ref (G.2.2.2 t0)), (1, .int x1)] [] h := by
  rw [g_X12_isSign] at hg
  refine z_aload_n (pc := 0) hK 0 dX12_isSign_0 rfl (z_getI (pc := 1) hK f_X12_151_11 ht0 dX12_isSign_1 (z_iconst (pc := 4) hK dX12_isSign_4 zc_i3 (z_icmp_ne (pc := 5) hK 25 dX12_isSign_5 (by decide) (fun c_1 => ?_) (fun c_1 => ?_))))
  · rw [if_neg c_1] at hg
    exact z_iconst (pc := 25) hK dX12_isSign_25 zc_i0 (z_zretP (pc := 26) hK rfl hE hg dX12_isSign_26)
  · rw [if_pos c_1] at hg
    obtain ⟨c_2, hg⟩ := zgu_some hg
    refine z_aload_n (pc := 8) hK 0 dX12_isSign_8 rfl (z_getR (pc := 9) hK f_X12_7_11 ht0 dX12_isSign_9 (z_aload_n (pc := 12) hK 0 dX12_isSign_12 rfl (z_getI (pc := 13) hK f_X12_141_11 ht0 dX12_isSign_13 (z_iald (pc := 16) hK (zt_11_2 ht0) c_2 dX12_isSign_16 (z_iload_n (pc := 17) hK 1 dX12_isSign_17 rfl (z_icmp_ne (pc := 18) hK 25 dX12_isSign_18 (by decide) (fun c_3 => ?_) (fun c_3 => ?_)))))))
    · rw [if_neg c_3] at hg
      exact z_iconst (pc := 25) hK dX12_isSign_25 zc_i0 (z_zretP (pc := 26) hK rfl hE hg dX12_isSign_26)
    · rw [if_pos c_3] at hg
      exact z_iconst (pc := 21) hK dX12_isSign_21 zc_i1 (z_goto (pc := 22) hK 26 dX12_isSign_22 (by decide) (z_zretP (pc := 26) hK rfl hE hg dX12_isSign_26))
theorem m_X12_isSign {l : Launch} {G : zG} (hG : zD G) {h : zH} {t0 : Nat} {x1 : Int32} (ht0 : zT t0 = (11, 0)) {r : Bool} (hg : g_X12_isSign h t0 x1 = some r) : zM l G yX12_isSign cX12_isSign 2 (some .boolean) 0 0 [.ref (G.2.2.2 t0), .int x1] h (some (.int (zb r))) h :=
  zM_of hG pn_X12 (Nat.le_of_ble_eq_true rfl) (fun K _ hK hE => b_X12_isSign hK ht0 hE hg)
theorem dX12_fails_0 : decode cX12_fails 0 = .ok (.aload_n 0, 1) := by decide +kernel
theorem dX12_fails_1 : decode cX12_fails 1 = .ok (.iload_n 1, 1) := by decide +kernel
theorem dX12_fails_2 : decode cX12_fails 2 = .ok (.bipush 16, 2) := by decide +kernel
theorem dX12_fails_4 : decode cX12_fails 4 = .ok (.aload_n 0, 1) := by decide +kernel
theorem dX12_fails_5 : decode cX12_fails 5 = .ok (.getfield 141, 3) := by decide +kernel
theorem dX12_fails_8 : decode cX12_fails 8 = .ok (.imul, 1) := by decide +kernel
theorem dX12_fails_9 : decode cX12_fails 9 = .ok (.iadd, 1) := by decide +kernel
theorem dX12_fails_10 : decode cX12_fails 10 = .ok (.putfield 162, 3) := by decide +kernel
theorem dX12_fails_13 : decode cX12_fails 13 = .ok (.iconst 0, 1) := by decide +kernel
theorem dX12_fails_14 : decode cX12_fails 14 = .ok (.ireturn, 1) := by decide +kernel
def g_X12_fails (h : zH) (t0 : Nat) (x1 : Int32) : Option (Bool × zH) := zlet (zpi h t0 9 (x1 + (16 * (h.1 t0 5)))) fun h_1 => some (false, h_1)
set_option maxRecDepth 100000 in
set_option maxHeartbeats 4000000 in
theorem b_X12_fails {K : zK} {G : zG} (hK : zC K G cX12_fails RX12 2 0 0 (some .boolean)) {h : zH} {t0 : Nat} {x1 : Int32} (ht0 : zT t0 = (11, 0)) {r : Bool × zH} (hE : zE K G (some (.int (zb r.1))) r.2) (hg : g_X12_fails h t0 x1 = some r) : zW K G 2 0 [(0, .ref (G.2.2.2 t0)), (1, .int x1)] [] h := by
  rw [g_X12_fails] at hg
  obtain ⟨h_1, eh_1, hg⟩ := zlet_some hg
  exact z_aload_n (pc := 0) hK 0 dX12_fails_0 rfl (z_iload_n (pc := 1) hK 1 dX12_fails_1 rfl (z_bipush (pc := 2) hK dX12_fails_2 zc_b16 (z_aload_n (pc := 4) hK 0 dX12_fails_4 rfl (z_getI (pc := 5) hK f_X12_141_11 ht0 dX12_fails_5 (z_imul (pc := 8) hK dX12_fails_8 (z_iadd (pc := 9) hK dX12_fails_9 (z_putI (pc := 10) hK f_X12_162_11 fp_11_9 ht0 dX12_fails_10 (z_nameH eh_1 (z_iconst (pc := 13) hK dX12_fails_13 zc_i0 (z_zretE (pc := 14) hK rfl hE hg dX12_fails_14))))))))))
theorem m_X12_fails {l : Launch} {G : zG} (hG : zD G) {h : zH} {t0 : Nat} {x1 : Int32} (ht0 : zT t0 = (11, 0)) {r : Bool × zH} (hg : g_X12_fails h t0 x1 = some r) : zM l G yX12_fails cX12_fails 2 (some .boolean) 0 0 [.ref (G.2.2.2 t0), .int x1] h (some (.int (zb r.1))) r.2 :=
  zM_of hG pn_X12 (Nat.le_of_ble_eq_true rfl) (fun K _ hK hE => b_X12_fails hK ht0 hE hg)
theorem dX12_puts_0 : decode cX12_puts 0 = .ok (.aload_n 0, 1) := by decide +kernel
theorem dX12_puts_1 : decode cX12_puts 1 = .ok (.getfield 45, 3) := by decide +kernel
theorem dX12_puts_4 : decode cX12_puts 4 = .ok (.aload_n 0, 1) := by decide +kernel
theorem dX12_puts_5 : decode cX12_puts 5 = .ok (.getfield 165, 3) := by decide +kernel
theorem dX12_puts_8 : decode cX12_puts 8 = .ok (.iload_n 1, 1) := by decide +kernel
theorem dX12_puts_9 : decode cX12_puts 9 = .ok (.iastore, 1) := by decide +kernel
theorem dX12_puts_10 : decode cX12_puts 10 = .ok (.aload_n 0, 1) := by decide +kernel
theorem dX12_puts_11 : decode cX12_puts 11 = .ok (.dup, 1) := by decide +kernel
theorem dX12_puts_12 : decode cX12_puts 12 = .ok (.getfield 165, 3) := by decide +kernel
theorem dX12_puts_15 : decode cX12_puts 15 = .ok (.iconst 1, 1) := by decide +kernel
theorem dX12_puts_16 : decode cX12_puts 16 = .ok (.iadd, 1) := by decide +kernel
theorem dX12_puts_17 : decode cX12_puts 17 = .ok (.putfield 165, 3) := by decide +kernel
theorem dX12_puts_20 : decode cX12_puts 20 = .ok (.return_, 1) := by decide +kernel
def g_X12_puts (h : zH) (t0 : Nat) (x1 : Int32) : Option zH := zgu (zin (h.1 t0 21) 2000) <| zlet (zpi h (zR t0 20) (zx (h.1 t0 21)) x1) fun h_2 => zlet (zpi h_2 t0 21 ((h_2.1 t0 21) + 1)) fun h_3 => some h_3
set_option maxRecDepth 100000 in
set_option maxHeartbeats 4000000 in
theorem b_X12_puts {K : zK} {G : zG} (hK : zC K G cX12_puts RX12 2 0 0 none) {h : zH} {t0 : Nat} {x1 : Int32} (ht0 : zT t0 = (11, 0)) {r : zH} (hE : zE K G (none) r) (hg : g_X12_puts h t0 x1 = some r) : zW K G 2 0 [(0, .ref (G.2.2.2 t0)), (1, .int x1)] [] h := by
  rw [g_X12_puts] at hg
  obtain ⟨c_1, hg⟩ := zgu_some hg
  obtain ⟨h_2, eh_2, hg⟩ := zlet_some hg
  obtain ⟨h_3, eh_3, hg⟩ := zlet_some hg
  exact z_aload_n (pc := 0) hK 0 dX12_puts_0 rfl (z_getR (pc := 1) hK f_X12_45_11 ht0 dX12_puts_1 (z_aload_n (pc := 4) hK 0 dX12_puts_4 rfl (z_getI (pc := 5) hK f_X12_165_11 ht0 dX12_puts_5 (z_iload_n (pc := 8) hK 1 dX12_puts_8 rfl (z_iast (pc := 9) hK (zt_11_20 ht0) c_1 dX12_puts_9 (z_nameH eh_2 (z_aload_n (pc := 10) hK 0 dX12_puts_10 rfl (z_dup (pc := 11) hK dX12_puts_11 rfl (z_getI (pc := 12) hK f_X12_165_11 ht0 dX12_puts_12 (z_iconst (pc := 15) hK dX12_puts_15 zc_i1 (z_iadd (pc := 16) hK dX12_puts_16 (z_putI (pc := 17) hK f_X12_165_11 fp_11_21 ht0 dX12_puts_17 (z_nameH eh_3 (z_vretE (pc := 20) hK hE hg dX12_puts_20))))))))))))))
theorem m_X12_puts {l : Launch} {G : zG} (hG : zD G) {h : zH} {t0 : Nat} {x1 : Int32} (ht0 : zT t0 = (11, 0)) {r : zH} (hg : g_X12_puts h t0 x1 = some r) : zM l G yX12_puts cX12_puts 2 none 0 0 [.ref (G.2.2.2 t0), .int x1] h (none) r :=
  zM_of hG pn_X12 (Nat.le_of_ble_eq_true rfl) (fun K _ hK hE => b_X12_puts hK ht0 hE hg)
