theorem dX10_begin_0 : decode cX10_begin 0 = .ok (.aload_n 0, 1) := by decide +kernel
theorem dX10_begin_1 : decode cX10_begin 1 = .ok (.getfield 12, 3) := by decide +kernel
theorem dX10_begin_4 : decode cX10_begin 4 = .ok (.iconst 0, 1) := by decide +kernel
theorem dX10_begin_5 : decode cX10_begin 5 = .ok (.putfield 18, 3) := by decide +kernel
theorem dX10_begin_8 : decode cX10_begin 8 = .ok (.return_, 1) := by decide +kernel
def g_X10_begin (h : zH) (t0 : Nat) : Option zH := zlet (zpi h (zR t0 4) 1 0) fun h_1 => some h_1
set_option maxRecDepth 100000 in
set_option maxHeartbeats 4000000 in
theorem b_X10_begin {K : zK} {G : zG} (hK : zC K G cX10_begin RX10 1 0 0 none) {h : zH} {t0 : Nat} (ht0 : zT t0 = (9, 0)) {r : zH} (hE : zE K G (none) r) (hg : g_X10_begin h t0 = some r) : zW K G 1 0 [(0, .ref (G.2.2.2 t0))] [] h := by
  rw [g_X10_begin] at hg
  obtain ⟨h_1, eh_1, hg⟩ := zlet_some hg
  exact z_aload_n (pc := 0) hK 0 dX10_begin_0 rfl (z_getR (pc := 1) hK f_X10_12_9 ht0 dX10_begin_1 (z_iconst (pc := 4) hK dX10_begin_4 zc_i0 (z_putI (pc := 5) hK f_X10_18_8 fp_8_1 (zt_9_4 ht0) dX10_begin_5 (z_nameH eh_1 (z_vretE (pc := 8) hK hE hg dX10_begin_8)))))
theorem m_X10_begin {l : Launch} {G : zG} (hG : zD G) {h : zH} {t0 : Nat} (ht0 : zT t0 = (9, 0)) {r : zH} (hg : g_X10_begin h t0 = some r) : zM l G yX10_begin cX10_begin 1 none 0 0 [.ref (G.2.2.2 t0)] h (none) r :=
  zM_of hG pn_X10 (Nat.le_of_ble_eq_true rfl) (fun K _ hK hE => b_X10_begin hK ht0 hE hg)
def g_X4_fail_c9 (h : zH) (t0 : Nat) (x1 : Int32) : Option (Bool × zH) := zlet (zpi h t0 3 (x1 + (16 * (h.1 (zR t0 0) 3)))) fun h_1 => some (false, h_1)
set_option maxRecDepth 100000 in
set_option maxHeartbeats 4000000 in
theorem b_X4_fail_c9 {K : zK} {G : zG} (hK : zC K G cX4_fail RX4 2 0 0 (some .boolean)) {h : zH} {t0 : Nat} {x1 : Int32} (ht0 : zT t0 = (9, 0)) {r : Bool × zH} (hE : zE K G (some (.int (zb r.1))) r.2) (hg : g_X4_fail_c9 h t0 x1 = some r) : zW K G 2 0 [(0, .ref (G.2.2.2 t0)), (1, .int x1)] [] h := by
  rw [g_X4_fail_c9] at hg
  obtain ⟨h_1, eh_1, hg⟩ := zlet_some hg
  exact z_aload_n (pc := 0) hK 0 dX4_fail_0 rfl (z_iload_n (pc := 1) hK 1 dX4_fail_1 rfl (z_bipush (pc := 2) hK dX4_fail_2 zc_b16 (z_aload_n (pc := 4) hK 0 dX4_fail_4 rfl (z_getR (pc := 5) hK f_X4_9_9 ht0 dX4_fail_5 (z_getI (pc := 8) hK f_X4_45_7 (zt_9_0 ht0) dX4_fail_8 (z_imul (pc := 11) hK dX4_fail_11 (z_iadd (pc := 12) hK dX4_fail_12 (z_putI (pc := 13) hK f_X4_22_9 fp_9_3 ht0 dX4_fail_13 (z_nameH eh_1 (z_iconst (pc := 16) hK dX4_fail_16 zc_i0 (z_zretE (pc := 17) hK rfl hE hg dX4_fail_17)))))))))))
theorem m_X4_fail_c9 {l : Launch} {G : zG} (hG : zD G) {h : zH} {t0 : Nat} {x1 : Int32} (ht0 : zT t0 = (9, 0)) {r : Bool × zH} (hg : g_X4_fail_c9 h t0 x1 = some r) : zM l G yX4_fail cX4_fail 2 (some .boolean) 0 0 [.ref (G.2.2.2 t0), .int x1] h (some (.int (zb r.1))) r.2 :=
  zM_of hG pn_X4 (Nat.le_of_ble_eq_true rfl) (fun K _ hK hE => b_X4_fail_c9 hK ht0 hE hg)
def g_X4_findPerson_c9 (h : zH) (t0 : Nat) : Option (Bool × zH) := (g_X8_isName h (zR t0 0)).bind fun v_1 => if (zb v_1) = 0 then ((g_X4_fail_c9 h t0 1).bind fun v_9 => some (v_9.1, v_9.2)) else ((g_X8_packedWord h (zR t0 0)).bind fun v_3 => (g_X5_numberOf h (zR t0 1) v_3).bind fun v_4 => zlet (zpi h t0 2 v_4) fun h_5 => if (h_5.1 t0 2) = (-1) then ((g_X4_fail_c9 h_5 t0 2).bind fun v_7 => if (zb v_7.1) = 0 then (some (false, v_7.2)) else (some (true, v_7.2))) else (some (true, h_5)))
set_option maxRecDepth 100000 in
set_option maxHeartbeats 4000000 in
theorem b_X4_findPerson_c9 {K : zK} {G : zG} (hK : zC K G cX4_findPerson RX4 1 1 23 (some .boolean)) {h : zH} {t0 : Nat} (ht0 : zT t0 = (9, 0)) {r : Bool × zH} (hE : zE K G (some (.int (zb r.1))) r.2) (hg : g_X4_findPerson_c9 h t0 = some r) : zW K G 1 0 [(0, .ref (G.2.2.2 t0))] [] h := by
  rw [g_X4_findPerson_c9] at hg
  obtain ⟨v_1, qv_1, hg⟩ := zbind_some hg
  refine z_aload_n (pc := 0) hK 0 dX4_findPerson_0 rfl (z_getR (pc := 1) hK f_X4_9_9 ht0 dX4_findPerson_1 (z_callVi (pc := 4) hK [] (m_X8_isName (zC_D hK) (zt_9_0 ht0) qv_1) sv_X8_isName q_728 (zt_9_0 ht0) rfl [] rfl (Nat.le_of_ble_eq_true rfl) ⟨by decide, by decide⟩ dX4_findPerson_4 (z_if_ne (pc := 7) hK 16 dX4_findPerson_7 (by decide) (fun c_2 => ?_) (fun c_2 => ?_))))
  · rw [if_neg c_2] at hg
    obtain ⟨v_3, qv_3, hg⟩ := zbind_some hg
    obtain ⟨v_4, qv_4, hg⟩ := zbind_some hg
    obtain ⟨h_5, eh_5, hg⟩ := zlet_some hg
    refine z_aload_n (pc := 16) hK 0 dX4_findPerson_16 rfl (z_aload_n (pc := 17) hK 0 dX4_findPerson_17 rfl (z_getR (pc := 18) hK f_X4_15_9 ht0 dX4_findPerson_18 (z_aload_n (pc := 21) hK 0 dX4_findPerson_21 rfl (z_getR (pc := 22) hK f_X4_9_9 ht0 dX4_findPerson_22 (z_callVl (pc := 25) hK [] (m_X8_packedWord (zC_D hK) (zt_9_0 ht0) qv_3) sv_X8_packedWord q_729 (zt_9_0 ht0) rfl [.ref (G.2.2.2 (zR t0 1)), .ref (G.2.2.2 t0)] rfl (Nat.le_of_ble_eq_true rfl) ⟨by decide, by decide⟩ dX4_findPerson_25 (z_callVi (pc := 28) hK [.long v_3] (m_X5_numberOf (zC_D hK) (zt_9_1 ht0) qv_4) sv_X5_numberOf q_730 (zt_9_1 ht0) rfl [.ref (G.2.2.2 t0)] rfl (Nat.le_of_ble_eq_true rfl) ⟨by decide, by decide⟩ dX4_findPerson_28 (z_putI (pc := 31) hK f_X4_54_9 fp_9_2 ht0 dX4_findPerson_31 (z_nameH eh_5 (z_aload_n (pc := 34) hK 0 dX4_findPerson_34 rfl (z_getI (pc := 35) hK f_X4_54_9 ht0 dX4_findPerson_35 (z_iconst (pc := 38) hK dX4_findPerson_38 zc_im1 (z_icmp_ne (pc := 39) hK 50 dX4_findPerson_39 (by decide) (fun c_6 => ?_) (fun c_6 => ?_)))))))))))))
    · rw [if_neg c_6] at hg
      exact z_iconst (pc := 50) hK dX4_findPerson_50 zc_i1 (z_goto (pc := 51) hK 55 dX4_findPerson_51 (by decide) (z_zretE (pc := 55) hK rfl hE hg dX4_findPerson_55))
    · rw [if_pos c_6] at hg
      obtain ⟨v_7, qv_7, hg⟩ := zbind_some hg
      refine z_aload_n (pc := 42) hK 0 dX4_findPerson_42 rfl (z_iconst (pc := 43) hK dX4_findPerson_43 zc_i2 (z_callUi (pc := 44) hK [.int 2] (m_X4_fail_c9 (zC_D hK) ht0 qv_7) su_X4_fail_c9_X4 q_706 ht0 rfl [] rfl (Nat.le_of_ble_eq_true rfl) ⟨by decide, by decide⟩ dX4_findPerson_44 (z_if_eq (pc := 47) hK 54 dX4_findPerson_47 (by decide) (fun c_8 => ?_) (fun c_8 => ?_))))
      · rw [if_pos c_8] at hg
        exact z_iconst (pc := 54) hK dX4_findPerson_54 zc_i0 (z_zretE (pc := 55) hK rfl hE hg dX4_findPerson_55)
      · rw [if_neg c_8] at hg
        exact z_iconst (pc := 50) hK dX4_findPerson_50 zc_i1 (z_goto (pc := 51) hK 55 dX4_findPerson_51 (by decide) (z_zretE (pc := 55) hK rfl hE hg dX4_findPerson_55))
  · rw [if_pos c_2] at hg
    obtain ⟨v_9, qv_9, hg⟩ := zbind_some hg
    exact z_aload_n (pc := 10) hK 0 dX4_findPerson_10 rfl (z_iconst (pc := 11) hK dX4_findPerson_11 zc_i1 (z_callUi (pc := 12) hK [.int 1] (m_X4_fail_c9 (zC_D hK) ht0 qv_9) su_X4_fail_c9_X4 q_706 ht0 rfl [] rfl (Nat.le_of_ble_eq_true rfl) ⟨by decide, by decide⟩ dX4_findPerson_12 (z_zretE (pc := 15) hK rfl hE hg dX4_findPerson_15)))
theorem m_X4_findPerson_c9 {l : Launch} {G : zG} (hG : zD G) {h : zH} {t0 : Nat} (ht0 : zT t0 = (9, 0)) {r : Bool × zH} (hg : g_X4_findPerson_c9 h t0 = some r) : zM l G yX4_findPerson cX4_findPerson 1 (some .boolean) 1 23 [.ref (G.2.2.2 t0)] h (some (.int (zb r.1))) r.2 :=
  zM_of hG pn_X4 (Nat.le_of_ble_eq_true rfl) (fun K _ hK hE => b_X4_findPerson_c9 hK ht0 hE hg)
def g_X4_findOther_c9 (h : zH) (t0 : Nat) (x1 : Int32) : Option (Bool × zH) := (g_X4_findPerson_c9 h t0).bind fun v_1 => if (zb v_1.1) = 0 then (some (false, v_1.2)) else (if (v_1.2.1 t0 2) = x1 then ((g_X4_fail_c9 v_1.2 t0 3).bind fun v_4 => if (zb v_4.1) = 0 then (some (false, v_4.2)) else (some (true, v_4.2))) else (some (true, v_1.2)))
set_option maxRecDepth 100000 in
set_option maxHeartbeats 4000000 in
theorem b_X4_findOther_c9 {K : zK} {G : zG} (hK : zC K G cX4_findOther RX4 2 2 43 (some .boolean)) {h : zH} {t0 : Nat} {x1 : Int32} (ht0 : zT t0 = (9, 0)) {r : Bool × zH} (hE : zE K G (some (.int (zb r.1))) r.2) (hg : g_X4_findOther_c9 h t0 x1 = some r) : zW K G 2 0 [(0, .ref (G.2.2.2 t0)), (1, .int x1)] [] h := by
  rw [g_X4_findOther_c9] at hg
  obtain ⟨v_1, qv_1, hg⟩ := zbind_some hg
  refine z_aload_n (pc := 0) hK 0 dX4_findOther_0 rfl (z_callUi (pc := 1) hK [] (m_X4_findPerson_c9 (zC_D hK) ht0 qv_1) su_X4_findPerson_c9_X4 q_737 ht0 rfl [] rfl (Nat.le_of_ble_eq_true rfl) ⟨by decide, by decide⟩ dX4_findOther_1 (z_if_eq (pc := 4) hK 27 dX4_findOther_4 (by decide) (fun c_2 => ?_) (fun c_2 => ?_)))
  · rw [if_pos c_2] at hg
    exact z_iconst (pc := 27) hK dX4_findOther_27 zc_i0 (z_zretE (pc := 28) hK rfl hE hg dX4_findOther_28)
  · rw [if_neg c_2] at hg
    refine z_aload_n (pc := 7) hK 0 dX4_findOther_7 rfl (z_getI (pc := 8) hK f_X4_54_9 ht0 dX4_findOther_8 (z_iload_n (pc := 11) hK 1 dX4_findOther_11 rfl (z_icmp_ne (pc := 12) hK 23 dX4_findOther_12 (by decide) (fun c_3 => ?_) (fun c_3 => ?_))))
    · rw [if_neg c_3] at hg
      exact z_iconst (pc := 23) hK dX4_findOther_23 zc_i1 (z_goto (pc := 24) hK 28 dX4_findOther_24 (by decide) (z_zretE (pc := 28) hK rfl hE hg dX4_findOther_28))
    · rw [if_pos c_3] at hg
      obtain ⟨v_4, qv_4, hg⟩ := zbind_some hg
      refine z_aload_n (pc := 15) hK 0 dX4_findOther_15 rfl (z_iconst (pc := 16) hK dX4_findOther_16 zc_i3 (z_callUi (pc := 17) hK [.int 3] (m_X4_fail_c9 (zC_D hK) ht0 qv_4) su_X4_fail_c9_X4 q_706 ht0 rfl [] rfl (Nat.le_of_ble_eq_true rfl) ⟨by decide, by decide⟩ dX4_findOther_17 (z_if_eq (pc := 20) hK 27 dX4_findOther_20 (by decide) (fun c_5 => ?_) (fun c_5 => ?_))))
      · rw [if_pos c_5] at hg
        exact z_iconst (pc := 27) hK dX4_findOther_27 zc_i0 (z_zretE (pc := 28) hK rfl hE hg dX4_findOther_28)
      · rw [if_neg c_5] at hg
        exact z_iconst (pc := 23) hK dX4_findOther_23 zc_i1 (z_goto (pc := 24) hK 28 dX4_findOther_24 (by decide) (z_zretE (pc := 28) hK rfl hE hg dX4_findOther_28))
theorem m_X4_findOther_c9 {l : Launch} {G : zG} (hG : zD G) {h : zH} {t0 : Nat} {x1 : Int32} (ht0 : zT t0 = (9, 0)) {r : Bool × zH} (hg : g_X4_findOther_c9 h t0 x1 = some r) : zM l G yX4_findOther cX4_findOther 2 (some .boolean) 2 43 [.ref (G.2.2.2 t0), .int x1] h (some (.int (zb r.1))) r.2 :=
  zM_of hG pn_X4 (Nat.le_of_ble_eq_true rfl) (fun K _ hK hE => b_X4_findOther_c9 hK ht0 hE hg)
theorem dX10_readLine_0 : decode cX10_readLine 0 = .ok (.aload_n 0, 1) := by decide +kernel
theorem dX10_readLine_1 : decode cX10_readLine 1 = .ok (.getfield 22, 3) := by decide +kernel
theorem dX10_readLine_4 : decode cX10_readLine 4 = .ok (.getfield 26, 3) := by decide +kernel
theorem dX10_readLine_7 : decode cX10_readLine 7 = .ok (.istore_n 1, 1) := by decide +kernel
theorem dX10_readLine_8 : decode cX10_readLine 8 = .ok (.iload_n 1, 1) := by decide +kernel
theorem dX10_readLine_9 : decode cX10_readLine 9 = .ok (.bipush 22, 2) := by decide +kernel
theorem dX10_readLine_11 : decode cX10_readLine 11 = .ok (.if_icmp .lt 9, 3) := by decide +kernel
theorem dX10_readLine_14 : decode cX10_readLine 14 = .ok (.iload_n 1, 1) := by decide +kernel
theorem dX10_readLine_15 : decode cX10_readLine 15 = .ok (.bipush 26, 2) := by decide +kernel
theorem dX10_readLine_17 : decode cX10_readLine 17 = .ok (.if_icmp .le 9, 3) := by decide +kernel
theorem dX10_readLine_20 : decode cX10_readLine 20 = .ok (.aload_n 0, 1) := by decide +kernel
theorem dX10_readLine_21 : decode cX10_readLine 21 = .ok (.iconst 1, 1) := by decide +kernel
theorem dX10_readLine_22 : decode cX10_readLine 22 = .ok (.invokevirtual 31, 3) := by decide +kernel
theorem dX10_readLine_25 : decode cX10_readLine 25 = .ok (.ireturn, 1) := by decide +kernel
theorem dX10_readLine_26 : decode cX10_readLine 26 = .ok (.aload_n 0, 1) := by decide +kernel
theorem dX10_readLine_27 : decode cX10_readLine 27 = .ok (.getfield 12, 3) := by decide +kernel
theorem dX10_readLine_30 : decode cX10_readLine 30 = .ok (.getfield 18, 3) := by decide +kernel
theorem dX10_readLine_33 : decode cX10_readLine 33 = .ok (.bipush 40, 2) := by decide +kernel
theorem dX10_readLine_35 : decode cX10_readLine 35 = .ok (.if_icmp .lt 9, 3) := by decide +kernel
theorem dX10_readLine_38 : decode cX10_readLine 38 = .ok (.aload_n 0, 1) := by decide +kernel
theorem dX10_readLine_39 : decode cX10_readLine 39 = .ok (.iconst 5, 1) := by decide +kernel
theorem dX10_readLine_40 : decode cX10_readLine 40 = .ok (.invokevirtual 31, 3) := by decide +kernel
theorem dX10_readLine_43 : decode cX10_readLine 43 = .ok (.ireturn, 1) := by decide +kernel
theorem dX10_readLine_44 : decode cX10_readLine 44 = .ok (.aload_n 0, 1) := by decide +kernel
theorem dX10_readLine_45 : decode cX10_readLine 45 = .ok (.getfield 22, 3) := by decide +kernel
theorem dX10_readLine_48 : decode cX10_readLine 48 = .ok (.invokevirtual 35, 3) := by decide +kernel
theorem dX10_readLine_51 : decode cX10_readLine 51 = .ok (.iconst 0, 1) := by decide +kernel
theorem dX10_readLine_52 : decode cX10_readLine 52 = .ok (.istore_n 2, 1) := by decide +kernel
theorem dX10_readLine_53 : decode cX10_readLine 53 = .ok (.iconst 0, 1) := by decide +kernel
theorem dX10_readLine_54 : decode cX10_readLine 54 = .ok (.istore_n 3, 1) := by decide +kernel
theorem dX10_readLine_55 : decode cX10_readLine 55 = .ok (.iload_n 1, 1) := by decide +kernel
theorem dX10_readLine_56 : decode cX10_readLine 56 = .ok (.bipush 22, 2) := by decide +kernel
theorem dX10_readLine_58 : decode cX10_readLine 58 = .ok (.if_icmp .eq 30, 3) := by decide +kernel
theorem dX10_readLine_61 : decode cX10_readLine 61 = .ok (.iload_n 1, 1) := by decide +kernel
theorem dX10_readLine_62 : decode cX10_readLine 62 = .ok (.bipush 26, 2) := by decide +kernel
theorem dX10_readLine_64 : decode cX10_readLine 64 = .ok (.if_icmp .eq 24, 3) := by decide +kernel
theorem dX10_readLine_67 : decode cX10_readLine 67 = .ok (.aload_n 0, 1) := by decide +kernel
theorem dX10_readLine_68 : decode cX10_readLine 68 = .ok (.invokevirtual 38, 3) := by decide +kernel
theorem dX10_readLine_71 : decode cX10_readLine 71 = .ok (.ifCond .ne 5, 3) := by decide +kernel
theorem dX10_readLine_74 : decode cX10_readLine 74 = .ok (.iconst 0, 1) := by decide +kernel
theorem dX10_readLine_75 : decode cX10_readLine 75 = .ok (.ireturn, 1) := by decide +kernel
theorem dX10_readLine_76 : decode cX10_readLine 76 = .ok (.aload_n 0, 1) := by decide +kernel
theorem dX10_readLine_77 : decode cX10_readLine 77 = .ok (.getfield 42, 3) := by decide +kernel
theorem dX10_readLine_80 : decode cX10_readLine 80 = .ok (.istore_n 2, 1) := by decide +kernel
theorem dX10_readLine_81 : decode cX10_readLine 81 = .ok (.aload_n 0, 1) := by decide +kernel
theorem dX10_readLine_82 : decode cX10_readLine 82 = .ok (.getfield 22, 3) := by decide +kernel
theorem dX10_readLine_85 : decode cX10_readLine 85 = .ok (.invokevirtual 35, 3) := by decide +kernel
theorem dX10_readLine_88 : decode cX10_readLine 88 = .ok (.iload_n 1, 1) := by decide +kernel
theorem dX10_readLine_89 : decode cX10_readLine 89 = .ok (.bipush 23, 2) := by decide +kernel
theorem dX10_readLine_91 : decode cX10_readLine 91 = .ok (.if_icmp .eq 9, 3) := by decide +kernel
theorem dX10_readLine_94 : decode cX10_readLine 94 = .ok (.iload_n 1, 1) := by decide +kernel
theorem dX10_readLine_95 : decode cX10_readLine 95 = .ok (.bipush 24, 2) := by decide +kernel
theorem dX10_readLine_97 : decode cX10_readLine 97 = .ok (.if_icmp .ne 25, 3) := by decide +kernel
theorem dX10_readLine_100 : decode cX10_readLine 100 = .ok (.aload_n 0, 1) := by decide +kernel
theorem dX10_readLine_101 : decode cX10_readLine 101 = .ok (.iload_n 2, 1) := by decide +kernel
theorem dX10_readLine_102 : decode cX10_readLine 102 = .ok (.invokevirtual 45, 3) := by decide +kernel
theorem dX10_readLine_105 : decode cX10_readLine 105 = .ok (.ifCond .ne 5, 3) := by decide +kernel
theorem dX10_readLine_108 : decode cX10_readLine 108 = .ok (.iconst 0, 1) := by decide +kernel
theorem dX10_readLine_109 : decode cX10_readLine 109 = .ok (.ireturn, 1) := by decide +kernel
theorem dX10_readLine_110 : decode cX10_readLine 110 = .ok (.aload_n 0, 1) := by decide +kernel
theorem dX10_readLine_111 : decode cX10_readLine 111 = .ok (.getfield 42, 3) := by decide +kernel
theorem dX10_readLine_114 : decode cX10_readLine 114 = .ok (.istore_n 3, 1) := by decide +kernel
theorem dX10_readLine_115 : decode cX10_readLine 115 = .ok (.aload_n 0, 1) := by decide +kernel
theorem dX10_readLine_116 : decode cX10_readLine 116 = .ok (.getfield 22, 3) := by decide +kernel
theorem dX10_readLine_119 : decode cX10_readLine 119 = .ok (.invokevirtual 35, 3) := by decide +kernel
theorem dX10_readLine_122 : decode cX10_readLine 122 = .ok (.aload_n 0, 1) := by decide +kernel
theorem dX10_readLine_123 : decode cX10_readLine 123 = .ok (.getfield 12, 3) := by decide +kernel
theorem dX10_readLine_126 : decode cX10_readLine 126 = .ok (.iload_n 1, 1) := by decide +kernel
theorem dX10_readLine_127 : decode cX10_readLine 127 = .ok (.iload_n 2, 1) := by decide +kernel
theorem dX10_readLine_128 : decode cX10_readLine 128 = .ok (.iload_n 3, 1) := by decide +kernel
theorem dX10_readLine_129 : decode cX10_readLine 129 = .ok (.invokevirtual 48, 3) := by decide +kernel
theorem dX10_readLine_132 : decode cX10_readLine 132 = .ok (.iconst 1, 1) := by decide +kernel
theorem dX10_readLine_133 : decode cX10_readLine 133 = .ok (.ireturn, 1) := by decide +kernel
def g_X10_readLine_20 (t0 : Nat)  (h : zH) : Option (Bool × zH) := (g_X4_fail_c9 h t0 1).bind fun v_12 => some (v_12.1, v_12.2)
def g_X10_readLine_122 (t0 : Nat)  (x1 : Int32) (x2 : Int32) (x3 : Int32) (h : zH) : Option (Bool × zH) := (g_X9_add h (zR t0 4) x1 x2 x3).bind fun v_19 => some (true, v_19)
def g_X10_readLine_100 (t0 : Nat)  (x1 : Int32) (x2 : Int32) (h : zH) : Option (Bool × zH) := (g_X4_findOther_c9 h t0 x2).bind fun v_15 => if (zb v_15.1) = 0 then (some (false, v_15.2)) else (zlet (v_15.2.1 t0 2) fun v_17 => (g_X8_lookAtNext v_15.2 (zR t0 0)).bind fun v_18 => g_X10_readLine_122 t0 x1 x2 v_17 v_18)
def g_X10_readLine_88 (t0 : Nat)  (x1 : Int32) (x2 : Int32) (x3 : Int32) (h : zH) : Option (Bool × zH) := if x1 = 23 then (g_X10_readLine_100 t0 x1 x2 h) else (if x1 = 24 then (g_X10_readLine_100 t0 x1 x2 h) else (g_X10_readLine_122 t0 x1 x2 x3 h))
def g_X10_readLine (h : zH) (t0 : Nat) : Option (Bool × zH) := zlet (h.1 (zR t0 0) 2) fun v_1 => if v_1 < 22 then (g_X10_readLine_20 t0 h) else (if v_1 ≤ 26 then (if (h.1 (zR t0 4) 1) < 40 then ((g_X8_lookAtNext h (zR t0 0)).bind fun v_5 => if v_1 = 22 then (g_X10_readLine_88 t0 v_1 0 0 v_5) else (if v_1 = 26 then (g_X10_readLine_88 t0 v_1 0 0 v_5) else ((g_X4_findPerson_c9 v_5 t0).bind fun v_8 => if (zb v_8.1) = 0 then (some (false, v_8.2)) else ((g_X8_lookAtNext v_8.2 (zR t0 0)).bind fun v_10 => g_X10_readLine_88 t0 v_1 (v_8.2.1 t0 2) 0 v_10)))) else ((g_X4_fail_c9 h t0 5).bind fun v_11 => some (v_11.1, v_11.2))) else (g_X10_readLine_20 t0 h))
set_option maxRecDepth 100000 in
set_option maxHeartbeats 4000000 in
theorem b_X10_readLine_20 {K : zK} {G : zG} (hK : zC K G cX10_readLine RX10 4 6 130 (some .boolean)) {t0 : Nat} (ht0 : zT t0 = (9, 0)) {r : Bool × zH} (hE : zE K G (some (.int (zb r.1))) r.2) (h : zH) (hg : g_X10_readLine_20 t0 h = some r) : zW K G 4 20 [(0, .ref (G.2.2.2 t0))] [] h := by
  rw [g_X10_readLine_20] at hg
  obtain ⟨v_12, qv_12, hg⟩ := zbind_some hg
  exact z_aload_n (pc := 20) hK 0 dX10_readLine_20 rfl (z_iconst (pc := 21) hK dX10_readLine_21 zc_i1 (z_callUi (pc := 22) hK [.int 1] (m_X4_fail_c9 (zC_D hK) ht0 qv_12) su_X4_fail_c9_X10 q_816 ht0 rfl [] rfl (Nat.le_of_ble_eq_true rfl) ⟨by decide, by decide⟩ dX10_readLine_22 (z_zretE (pc := 25) hK rfl hE hg dX10_readLine_25)))
set_option maxRecDepth 100000 in
set_option maxHeartbeats 4000000 in
theorem b_X10_readLine_122 {K : zK} {G : zG} (hK : zC K G cX10_readLine RX10 4 6 130 (some .boolean)) {t0 : Nat} (ht0 : zT t0 = (9, 0)) {r : Bool × zH} (hE : zE K G (some (.int (zb r.1))) r.2) (x1 : Int32) (x2 : Int32) (x3 : Int32) (h : zH) (hg : g_X10_readLine_122 t0 x1 x2 x3 h = some r) : zW K G 4 122 [(0, .ref (G.2.2.2 t0)), (1, .int x1), (2, .int x2), (3, .int x3)] [] h := by
  rw [g_X10_readLine_122] at hg
  obtain ⟨v_19, qv_19, hg⟩ := zbind_some hg
  exact z_aload_n (pc := 122) hK 0 dX10_readLine_122 rfl (z_getR (pc := 123) hK f_X10_12_9 ht0 dX10_readLine_123 (z_iload_n (pc := 126) hK 1 dX10_readLine_126 rfl (z_iload_n (pc := 127) hK 2 dX10_readLine_127 rfl (z_iload_n (pc := 128) hK 3 dX10_readLine_128 rfl (z_callVv (pc := 129) hK [.int x1, .int x2, .int x3] (m_X9_add (zC_D hK) (zt_9_4 ht0) qv_19) sv_X9_add q_826 (zt_9_4 ht0) rfl [] rfl (Nat.le_of_ble_eq_true rfl) ⟨by decide, by decide⟩ dX10_readLine_129 (z_iconst (pc := 132) hK dX10_readLine_132 zc_i1 (z_zretE (pc := 133) hK rfl hE hg dX10_readLine_133)))))))
set_option maxRecDepth 100000 in
set_option maxHeartbeats 4000000 in
theorem b_X10_readLine_100 {K : zK} {G : zG} (hK : zC K G cX10_readLine RX10 4 6 130 (some .boolean)) {t0 : Nat} (ht0 : zT t0 = (9, 0)) {r : Bool × zH} (hE : zE K G (some (.int (zb r.1))) r.2) (x1 : Int32) (x2 : Int32) (h : zH) (hg : g_X10_readLine_100 t0 x1 x2 h = some r) : zW K G 4 100 [(0, .ref (G.2.2.2 t0)), (1, .int x1), (2, .int x2)] [] h := by
  rw [g_X10_readLine_100] at hg
  obtain ⟨v_15, qv_15, hg⟩ := zbind_some hg
  refine z_aload_n (pc := 100) hK 0 dX10_readLine_100 rfl (z_iload_n (pc := 101) hK 2 dX10_readLine_101 rfl (z_callUi (pc := 102) hK [.int x2] (m_X4_findOther_c9 (zC_D hK) ht0 qv_15) su_X4_findOther_c9_X10 q_823 ht0 rfl [] rfl (Nat.le_of_ble_eq_true rfl) ⟨by decide, by decide⟩ dX10_readLine_102 (z_if_ne (pc := 105) hK 110 dX10_readLine_105 (by decide) (fun c_16 => ?_) (fun c_16 => ?_))))
  · rw [if_neg c_16] at hg
    obtain ⟨v_17, ev_17, hg⟩ := zlet_some hg
    obtain ⟨v_18, qv_18, hg⟩ := zbind_some hg
    exact z_aload_n (pc := 110) hK 0 dX10_readLine_110 rfl (z_getI (pc := 111) hK f_X10_42_9 ht0 dX10_readLine_111 (z_nameI ev_17 (z_istore_n (pc := 114) hK (lv' := [(3, .int v_17), (0, .ref (G.2.2.2 t0)), (1, .int x1), (2, .int x2)]) dX10_readLine_114 (by decide) rfl (z_aload_n (pc := 115) hK 1 dX10_readLine_115 rfl (z_getR (pc := 116) hK f_X10_22_9 ht0 dX10_readLine_116 (z_callVv (pc := 119) hK [] (m_X8_lookAtNext (zC_D hK) (zt_9_0 ht0) qv_18) sv_X8_lookAtNext q_819 (zt_9_0 ht0) rfl [] rfl (Nat.le_of_ble_eq_true rfl) ⟨by decide, by decide⟩ dX10_readLine_119 (zsub (lv' := [(0, .ref (G.2.2.2 t0)), (1, .int x1), (2, .int x2), (3, .int v_17)]) [1, 2, 3, 0] rfl (b_X10_readLine_122 hK ht0 hE x1 x2 v_17 v_18 hg))))))))
  · rw [if_pos c_16] at hg
    exact z_iconst (pc := 108) hK dX10_readLine_108 zc_i0 (z_zretE (pc := 109) hK rfl hE hg dX10_readLine_109)
set_option maxRecDepth 100000 in
set_option maxHeartbeats 4000000 in
theorem b_X10_readLine_88 {K : zK} {G : zG} (hK : zC K G cX10_readLine RX10 4 6 130 (some .boolean)) {t0 : Nat} (ht0 : zT t0 = (9, 0)) {r : Bool × zH} (hE : zE K G (some (.int (zb r.1))) r.2) (x1 : Int32) (x2 : Int32) (x3 : Int32) (h : zH) (hg : g_X10_readLine_88 t0 x1 x2 x3 h = some r) : zW K G 4 88 [(0, .ref (G.2.2.2 t0)), (1, .int x1), (2, .int x2), (3, .int x3)] [] h := by
  rw [g_X10_readLine_88] at hg
  refine z_iload_n (pc := 88) hK 1 dX10_readLine_88 rfl (z_bipush (pc := 89) hK dX10_readLine_89 zc_b23 (z_icmp_eq (pc := 91) hK 100 dX10_readLine_91 (by decide) (fun c_13 => ?_) (fun c_13 => ?_)))
  · rw [if_pos c_13] at hg
    exact zsub (lv' := [(0, .ref (G.2.2.2 t0)), (1, .int x1), (2, .int x2)]) [0, 1, 2] rfl (b_X10_readLine_100 hK ht0 hE x1 x2 h hg)
  · rw [if_neg c_13] at hg
    refine z_iload_n (pc := 94) hK 1 dX10_readLine_94 rfl (z_bipush (pc := 95) hK dX10_readLine_95 zc_b24 (z_icmp_ne (pc := 97) hK 122 dX10_readLine_97 (by decide) (fun c_14 => ?_) (fun c_14 => ?_)))
    · rw [if_neg c_14] at hg
      exact zsub (lv' := [(0, .ref (G.2.2.2 t0)), (1, .int x1), (2, .int x2), (3, .int x3)]) [0, 1, 2, 3] rfl (b_X10_readLine_122 hK ht0 hE x1 x2 x3 h hg)
    · rw [if_pos c_14] at hg
      exact zsub (lv' := [(0, .ref (G.2.2.2 t0)), (1, .int x1), (2, .int x2)]) [0, 1, 2] rfl (b_X10_readLine_100 hK ht0 hE x1 x2 h hg)
set_option maxRecDepth 100000 in
set_option maxHeartbeats 4000000 in
theorem b_X10_readLine {K : zK} {G : zG} (hK : zC K G cX10_readLine RX10 4 6 130 (some .boolean)) {h : zH} {t0 : Nat} (ht0 : zT t0 = (9, 0)) {r : Bool × zH} (hE : zE K G (some (.int (zb r.1))) r.2) (hg : g_X10_readLine h t0 = some r) : zW K G 4 0 [(0, .ref (G.2.2.2 t0))] [] h := by
  rw [g_X10_readLine] at hg
  obtain ⟨v_1, ev_1, hg⟩ := zlet_some hg
  refine z_aload_n (pc := 0) hK 0 dX10_readLine_0 rfl (z_getR (pc := 1) hK f_X10_22_9 ht0 dX10_readLine_1 (z_getI (pc := 4) hK f_X10_26_7 (zt_9_0 ht0) dX10_readLine_4 (z_nameI ev_1 (z_istore_n (pc := 7) hK (lv' := [(1, .int v_1), (0, .ref (G.2.2.2 t0))]) dX10_readLine_7 (by decide) rfl (z_iload_n (pc := 8) hK 0 dX10_readLine_8 rfl (z_bipush (pc := 9) hK dX10_readLine_9 zc_b22 (z_icmp_lt (pc := 11) hK 20 dX10_readLine_11 (by decide) (fun c_2 => ?_) (fun c_2 => ?_))))))))
  · rw [if_pos c_2] at hg
    exact zsub (lv' := [(0, .ref (G.2.2.2 t0))]) [1] rfl (b_X10_readLine_20 hK ht0 hE h hg)
  · rw [if_neg c_2] at hg
    refine z_iload_n (pc := 14) hK 0 dX10_readLine_14 rfl (z_bipush (pc := 15) hK dX10_readLine_15 zc_b26 (z_icmp_le (pc := 17) hK 26 dX10_readLine_17 (by decide) (fun c_3 => ?_) (fun c_3 => ?_)))
    · rw [if_pos c_3] at hg
      refine z_aload_n (pc := 26) hK 1 dX10_readLine_26 rfl (z_getR (pc := 27) hK f_X10_12_9 ht0 dX10_readLine_27 (z_getI (pc := 30) hK f_X10_18_8 (zt_9_4 ht0) dX10_readLine_30 (z_bipush (pc := 33) hK dX10_readLine_33 zc_b40 (z_icmp_lt (pc := 35) hK 44 dX10_readLine_35 (by decide) (fun c_4 => ?_) (fun c_4 => ?_)))))
      · rw [if_pos c_4] at hg
        obtain ⟨v_5, qv_5, hg⟩ := zbind_some hg
        refine z_aload_n (pc := 44) hK 1 dX10_readLine_44 rfl (z_getR (pc := 45) hK f_X10_22_9 ht0 dX10_readLine_45 (z_callVv (pc := 48) hK [] (m_X8_lookAtNext (zC_D hK) (zt_9_0 ht0) qv_5) sv_X8_lookAtNext q_819 (zt_9_0 ht0) rfl [] rfl (Nat.le_of_ble_eq_true rfl) ⟨by decide, by decide⟩ dX10_readLine_48 (z_iconst (pc := 51) hK dX10_readLine_51 zc_i0 (z_istore_n (pc := 52) hK (lv' := [(2, .int 0), (1, .int v_1), (0, .ref (G.2.2.2 t0))]) dX10_readLine_52 (by decide) rfl (z_iconst (pc := 53) hK dX10_readLine_53 zc_i0 (z_istore_n (pc := 54) hK (lv' := [(3, .int 0), (2, .int 0), (1, .int v_1), (0, .ref (G.2.2.2 t0))]) dX10_readLine_54 (by decide) rfl (z_iload_n (pc := 55) hK 2 dX10_readLine_55 rfl (z_bipush (pc := 56) hK dX10_readLine_56 zc_b22 (z_icmp_eq (pc := 58) hK 88 dX10_readLine_58 (by decide) (fun c_6 => ?_) (fun c_6 => ?_))))))))))
        · rw [if_pos c_6] at hg
          exact zsub (lv' := [(0, .ref (G.2.2.2 t0)), (1, .int v_1), (2, .int 0), (3, .int 0)]) [3, 2, 1, 0] rfl (b_X10_readLine_88 hK ht0 hE v_1 0 0 v_5 hg)
        · rw [if_neg c_6] at hg
          refine z_iload_n (pc := 61) hK 2 dX10_readLine_61 rfl (z_bipush (pc := 62) hK dX10_readLine_62 zc_b26 (z_icmp_eq (pc := 64) hK 88 dX10_readLine_64 (by decide) (fun c_7 => ?_) (fun c_7 => ?_)))
          · rw [if_pos c_7] at hg
            exact zsub (lv' := [(0, .ref (G.2.2.2 t0)), (1, .int v_1), (2, .int 0), (3, .int 0)]) [3, 2, 1, 0] rfl (b_X10_readLine_88 hK ht0 hE v_1 0 0 v_5 hg)
          · rw [if_neg c_7] at hg
            obtain ⟨v_8, qv_8, hg⟩ := zbind_some hg
            refine z_aload_n (pc := 67) hK 3 dX10_readLine_67 rfl (z_callUi (pc := 68) hK [] (m_X4_findPerson_c9 (zC_D hK) ht0 qv_8) su_X4_findPerson_c9_X10 q_820 ht0 rfl [] rfl (Nat.le_of_ble_eq_true rfl) ⟨by decide, by decide⟩ dX10_readLine_68 (z_if_ne (pc := 71) hK 76 dX10_readLine_71 (by decide) (fun c_9 => ?_) (fun c_9 => ?_)))
            · rw [if_neg c_9] at hg
              obtain ⟨v_10, qv_10, hg⟩ := zbind_some hg
              exact z_aload_n (pc := 76) hK 3 dX10_readLine_76 rfl (z_getI (pc := 77) hK f_X10_42_9 ht0 dX10_readLine_77 (z_istore_n (pc := 80) hK (lv' := [(2, .int (v_8.2.1 t0 2)), (3, .int 0), (1, .int v_1), (0, .ref (G.2.2.2 t0))]) dX10_readLine_80 (by decide) rfl (z_aload_n (pc := 81) hK 3 dX10_readLine_81 rfl (z_getR (pc := 82) hK f_X10_22_9 ht0 dX10_readLine_82 (z_callVv (pc := 85) hK [] (m_X8_lookAtNext (zC_D hK) (zt_9_0 ht0) qv_10) sv_X8_lookAtNext q_819 (zt_9_0 ht0) rfl [] rfl (Nat.le_of_ble_eq_true rfl) ⟨by decide, by decide⟩ dX10_readLine_85 (zsub (lv' := [(0, .ref (G.2.2.2 t0)), (1, .int v_1), (2, .int (v_8.2.1 t0 2)), (3, .int 0)]) [3, 2, 0, 1] rfl (b_X10_readLine_88 hK ht0 hE v_1 (v_8.2.1 t0 2) 0 v_10 hg)))))))
            · rw [if_pos c_9] at hg
              exact z_iconst (pc := 74) hK dX10_readLine_74 zc_i0 (z_zretE (pc := 75) hK rfl hE hg dX10_readLine_75)
      · rw [if_neg c_4] at hg
        obtain ⟨v_11, qv_11, hg⟩ := zbind_some hg
        exact z_aload_n (pc := 38) hK 1 dX10_readLine_38 rfl (z_iconst (pc := 39) hK dX10_readLine_39 zc_i5 (z_callUi (pc := 40) hK [.int 5] (m_X4_fail_c9 (zC_D hK) ht0 qv_11) su_X4_fail_c9_X10 q_816 ht0 rfl [] rfl (Nat.le_of_ble_eq_true rfl) ⟨by decide, by decide⟩ dX10_readLine_40 (z_zretE (pc := 43) hK rfl hE hg dX10_readLine_43)))
    · rw [if_neg c_3] at hg
      exact zsub (lv' := [(0, .ref (G.2.2.2 t0))]) [1] rfl (b_X10_readLine_20 hK ht0 hE h hg)
theorem m_X10_readLine {l : Launch} {G : zG} (hG : zD G) {h : zH} {t0 : Nat} (ht0 : zT t0 = (9, 0)) {r : Bool × zH} (hg : g_X10_readLine h t0 = some r) : zM l G yX10_readLine cX10_readLine 4 (some .boolean) 6 130 [.ref (G.2.2.2 t0)] h (some (.int (zb r.1))) r.2 :=
  zM_of hG pn_X10 (Nat.le_of_ble_eq_true rfl) (fun K _ hK hE => b_X10_readLine hK ht0 hE hg)
theorem dX11_feed_0 : decode cX11_feed 0 = .ok (.aload_n 0, 1) := by decide +kernel
theorem dX11_feed_1 : decode cX11_feed 1 = .ok (.getfield 10, 3) := by decide +kernel
theorem dX11_feed_4 : decode cX11_feed 4 = .ok (.lload_n 1, 1) := by decide +kernel
theorem dX11_feed_5 : decode cX11_feed 5 = .ok (.invokevirtual 69, 3) := by decide +kernel
theorem dX11_feed_8 : decode cX11_feed 8 = .ok (.aload_n 0, 1) := by decide +kernel
theorem dX11_feed_9 : decode cX11_feed 9 = .ok (.getfield 10, 3) := by decide +kernel
theorem dX11_feed_12 : decode cX11_feed 12 = .ok (.lload_n 3, 1) := by decide +kernel
theorem dX11_feed_13 : decode cX11_feed 13 = .ok (.invokevirtual 69, 3) := by decide +kernel
theorem dX11_feed_16 : decode cX11_feed 16 = .ok (.aload_n 0, 1) := by decide +kernel
theorem dX11_feed_17 : decode cX11_feed 17 = .ok (.getfield 10, 3) := by decide +kernel
theorem dX11_feed_20 : decode cX11_feed 20 = .ok (.lload 5, 2) := by decide +kernel
theorem dX11_feed_22 : decode cX11_feed 22 = .ok (.invokevirtual 69, 3) := by decide +kernel
theorem dX11_feed_25 : decode cX11_feed 25 = .ok (.aload_n 0, 1) := by decide +kernel
theorem dX11_feed_26 : decode cX11_feed 26 = .ok (.getfield 10, 3) := by decide +kernel
theorem dX11_feed_29 : decode cX11_feed 29 = .ok (.getfield 73, 3) := by decide +kernel
theorem dX11_feed_32 : decode cX11_feed 32 = .ok (.ireturn, 1) := by decide +kernel
def g_X11_feed (h : zH) (t0 : Nat) (x1 : Int64) (x3 : Int64) (x5 : Int64) : Option (Int32 × zH) := (g_X8_append h (zR t0 0) x1).bind fun v_1 => (g_X8_append v_1 (zR t0 0) x3).bind fun v_2 => (g_X8_append v_2 (zR t0 0) x5).bind fun v_3 => some (v_3.1 (zR t0 0) 1, v_3)
set_option maxRecDepth 100000 in
set_option maxHeartbeats 4000000 in
theorem b_X11_feed {K : zK} {G : zG} (hK : zC K G cX11_feed RX11 7 1 25 (some .int)) {h : zH} {t0 : Nat} {x1 : Int64} {x3 : Int64} {x5 : Int64} (ht0 : zT t0 = (10, 0)) {r : Int32 × zH} (hE : zE K G (some (.int r.1)) r.2) (hg : g_X11_feed h t0 x1 x3 x5 = some r) : zW K G 7 0 [(0, .ref (G.2.2.2 t0)), (1, .long x1), (3, .long x3), (5, .long x5)] [] h := by
  rw [g_X11_feed] at hg
  obtain ⟨v_1, qv_1, hg⟩ := zbind_some hg
  obtain ⟨v_2, qv_2, hg⟩ := zbind_some hg
  obtain ⟨v_3, qv_3, hg⟩ := zbind_some hg
  exact z_aload_n (pc := 0) hK 0 dX11_feed_0 rfl (z_getR (pc := 1) hK f_X11_10_10 ht0 dX11_feed_1 (z_lload_n (pc := 4) hK 1 dX11_feed_4 rfl (z_callVv (pc := 5) hK [.long x1] (m_X8_append (zC_D hK) (zt_10_0 ht0) qv_1) sv_X8_append q_498 (zt_10_0 ht0) rfl [] rfl (Nat.le_of_ble_eq_true rfl) ⟨by decide, by decide⟩ dX11_feed_5 (z_aload_n (pc := 8) hK 0 dX11_feed_8 rfl (z_getR (pc := 9) hK f_X11_10_10 ht0 dX11_feed_9 (z_lload_n (pc := 12) hK 2 dX11_feed_12 rfl (z_callVv (pc := 13) hK [.long x3] (m_X8_append (zC_D hK) (zt_10_0 ht0) qv_2) sv_X8_append q_498 (zt_10_0 ht0) rfl [] rfl (Nat.le_of_ble_eq_true rfl) ⟨by decide, by decide⟩ dX11_feed_13 (z_aload_n (pc := 16) hK 0 dX11_feed_16 rfl (z_getR (pc := 17) hK f_X11_10_10 ht0 dX11_feed_17 (z_lload (pc := 20) hK 3 dX11_feed_20 rfl (z_callVv (pc := 22) hK [.long x5] (m_X8_append (zC_D hK) (zt_10_0 ht0) qv_3) sv_X8_append q_498 (zt_10_0 ht0) rfl [] rfl (Nat.le_of_ble_eq_true rfl) ⟨by decide, by decide⟩ dX11_feed_22 (z_aload_n (pc := 25) hK 0 dX11_feed_25 rfl (z_getR (pc := 26) hK f_X11_10_10 ht0 dX11_feed_26 (z_getI (pc := 29) hK f_X11_73_7 (zt_10_0 ht0) dX11_feed_29 (z_iretE (pc := 32) hK hE hg dX11_feed_32)))))))))))))))
theorem m_X11_feed {l : Launch} {G : zG} (hG : zD G) {h : zH} {t0 : Nat} {x1 : Int64} {x3 : Int64} {x5 : Int64} (ht0 : zT t0 = (10, 0)) {r : Int32 × zH} (hg : g_X11_feed h t0 x1 x3 x5 = some r) : zM l G yX11_feed cX11_feed 7 (some .int) 1 25 [.ref (G.2.2.2 t0), .long x1, .long x3, .long x5] h (some (.int r.1)) r.2 :=
  zM_of hG pn_X11 (Nat.le_of_ble_eq_true rfl) (fun K _ hK hE => b_X11_feed hK ht0 hE hg)
theorem dX4_readTape_0 : decode cX4_readTape 0 = .ok (.aload_n 0, 1) := by decide +kernel
theorem dX4_readTape_1 : decode cX4_readTape 1 = .ok (.invokevirtual 19, 3) := by decide +kernel
theorem dX4_readTape_4 : decode cX4_readTape 4 = .ok (.aload_n 0, 1) := by decide +kernel
theorem dX4_readTape_5 : decode cX4_readTape 5 = .ok (.iconst 0, 1) := by decide +kernel
theorem dX4_readTape_6 : decode cX4_readTape 6 = .ok (.putfield 22, 3) := by decide +kernel
theorem dX4_readTape_9 : decode cX4_readTape 9 = .ok (.aload_n 0, 1) := by decide +kernel
theorem dX4_readTape_10 : decode cX4_readTape 10 = .ok (.getfield 9, 3) := by decide +kernel
theorem dX4_readTape_13 : decode cX4_readTape 13 = .ok (.invokevirtual 26, 3) := by decide +kernel
theorem dX4_readTape_16 : decode cX4_readTape 16 = .ok (.iconst 1, 1) := by decide +kernel
theorem dX4_readTape_17 : decode cX4_readTape 17 = .ok (.istore_n 1, 1) := by decide +kernel
theorem dX4_readTape_18 : decode cX4_readTape 18 = .ok (.iconst 0, 1) := by decide +kernel
theorem dX4_readTape_19 : decode cX4_readTape 19 = .ok (.istore_n 2, 1) := by decide +kernel
theorem dX4_readTape_20 : decode cX4_readTape 20 = .ok (.iload_n 2, 1) := by decide +kernel
theorem dX4_readTape_21 : decode cX4_readTape 21 = .ok (.sipush 1000, 3) := by decide +kernel
theorem dX4_readTape_24 : decode cX4_readTape 24 = .ok (.if_icmp .ge 45, 3) := by decide +kernel
theorem dX4_readTape_27 : decode cX4_readTape 27 = .ok (.iload_n 1, 1) := by decide +kernel
theorem dX4_readTape_28 : decode cX4_readTape 28 = .ok (.ifCond .eq 41, 3) := by decide +kernel
theorem dX4_readTape_31 : decode cX4_readTape 31 = .ok (.aload_n 0, 1) := by decide +kernel
theorem dX4_readTape_32 : decode cX4_readTape 32 = .ok (.getfield 9, 3) := by decide +kernel
theorem dX4_readTape_35 : decode cX4_readTape 35 = .ok (.getfield 31, 3) := by decide +kernel
theorem dX4_readTape_38 : decode cX4_readTape 38 = .ok (.ifCond .eq 31, 3) := by decide +kernel
theorem dX4_readTape_41 : decode cX4_readTape 41 = .ok (.aload_n 0, 1) := by decide +kernel
theorem dX4_readTape_42 : decode cX4_readTape 42 = .ok (.invokevirtual 34, 3) := by decide +kernel
theorem dX4_readTape_45 : decode cX4_readTape 45 = .ok (.ifCond .eq 16, 3) := by decide +kernel
theorem dX4_readTape_48 : decode cX4_readTape 48 = .ok (.aload_n 0, 1) := by decide +kernel
theorem dX4_readTape_49 : decode cX4_readTape 49 = .ok (.bipush 11, 2) := by decide +kernel
theorem dX4_readTape_51 : decode cX4_readTape 51 = .ok (.invokevirtual 38, 3) := by decide +kernel
theorem dX4_readTape_54 : decode cX4_readTape 54 = .ok (.ifCond .eq 7, 3) := by decide +kernel
theorem dX4_readTape_57 : decode cX4_readTape 57 = .ok (.iconst 1, 1) := by decide +kernel
theorem dX4_readTape_58 : decode cX4_readTape 58 = .ok (.goto 4, 3) := by decide +kernel
theorem dX4_readTape_61 : decode cX4_readTape 61 = .ok (.iconst 0, 1) := by decide +kernel
theorem dX4_readTape_62 : decode cX4_readTape 62 = .ok (.istore_n 1, 1) := by decide +kernel
theorem dX4_readTape_63 : decode cX4_readTape 63 = .ok (.iinc 2 1, 3) := by decide +kernel
theorem dX4_readTape_66 : decode cX4_readTape 66 = .ok (.goto (-46), 3) := by decide +kernel
theorem dX4_readTape_69 : decode cX4_readTape 69 = .ok (.aload_n 0, 1) := by decide +kernel
theorem dX4_readTape_70 : decode cX4_readTape 70 = .ok (.getfield 9, 3) := by decide +kernel
theorem dX4_readTape_73 : decode cX4_readTape 73 = .ok (.iconst 0, 1) := by decide +kernel
theorem dX4_readTape_74 : decode cX4_readTape 74 = .ok (.putfield 42, 3) := by decide +kernel
theorem dX4_readTape_77 : decode cX4_readTape 77 = .ok (.aload_n 0, 1) := by decide +kernel
theorem dX4_readTape_78 : decode cX4_readTape 78 = .ok (.getfield 22, 3) := by decide +kernel
theorem dX4_readTape_81 : decode cX4_readTape 81 = .ok (.ireturn, 1) := by decide +kernel
def g_X4_readTape_c5_69 (t0 : Nat)  (h : zH) : Option (Int32 × zH) := zlet (zpi h (zR t0 0) 1 0) fun h_11 => some (h_11.1 t0 3, h_11)
def g_X4_readTape_c5_20 (t0 : Nat)  : Nat → Int32 → Int32 → zH → Option (Int32 × zH)
  | 0, _, _, _ => none
  | n + 1, x1, x2, h => if 1000 ≤ x2 then (g_X4_readTape_c5_69 t0 h) else (if x1 = 0 then (g_X4_readTape_c5_69 t0 h) else (if (h.1 (zR t0 0) 2) = 0 then (g_X4_readTape_c5_69 t0 h) else ((g_X6_readLine h t0).bind fun v_7 => if (zb v_7.1) = 0 then (g_X4_readTape_c5_20 t0 n 0 (x2 + 1) v_7.2) else ((g_X4_take_c5 v_7.2 t0 11).bind fun v_9 => if (zb v_9.1) = 0 then (g_X4_readTape_c5_20 t0 n 0 (x2 + 1) v_9.2) else (g_X4_readTape_c5_20 t0 n 1 (x2 + 1) v_9.2)))))
def g_X4_readTape_c5 (h : zH) (t0 : Nat) : Option (Int32 × zH) := (g_X6_begin h t0).bind fun v_1 => zlet (zpi v_1 t0 3 0) fun h_2 => (g_X8_lookAtFirst h_2 (zR t0 0)).bind fun v_3 => g_X4_readTape_c5_20 t0 zfu 1 0 v_3
set_option maxRecDepth 100000 in
set_option maxHeartbeats 4000000 in
theorem b_X4_readTape_c5_69 {K : zK} {G : zG} (hK : zC K G cX4_readTape RX4 3 9 197 (some .int)) {t0 : Nat} (ht0 : zT t0 = (5, 0)) {r : Int32 × zH} (hE : zE K G (some (.int r.1)) r.2) (h : zH) (hg : g_X4_readTape_c5_69 t0 h = some r) : zW K G 3 69 [(0, .ref (G.2.2.2 t0))] [] h := by
  rw [g_X4_readTape_c5_69] at hg
  obtain ⟨h_11, eh_11, hg⟩ := zlet_some hg
  exact z_aload_n (pc := 69) hK 0 dX4_readTape_69 rfl (z_getR (pc := 70) hK f_X4_9_5 ht0 dX4_readTape_70 (z_iconst (pc := 73) hK dX4_readTape_73 zc_i0 (z_putI (pc := 74) hK f_X4_42_7 fp_7_1 (zt_5_0 ht0) dX4_readTape_74 (z_nameH eh_11 (z_aload_n (pc := 77) hK 0 dX4_readTape_77 rfl (z_getI (pc := 78) hK f_X4_22_5 ht0 dX4_readTape_78 (z_iretE (pc := 81) hK hE hg dX4_readTape_81)))))))
set_option maxRecDepth 100000 in
set_option maxHeartbeats 4000000 in
theorem b_X4_readTape_c5_20 {K : zK} {G : zG} (hK : zC K G cX4_readTape RX4 3 9 197 (some .int)) {t0 : Nat} (ht0 : zT t0 = (5, 0)) {r : Int32 × zH} (hE : zE K G (some (.int r.1)) r.2) : ∀ (n : Nat) (x1 : Int32) (x2 : Int32) (h : zH), g_X4_readTape_c5_20 t0 n x1 x2 h = some r → zW K G 3 20 [(0, .ref (G.2.2.2 t0)), (1, .int x1), (2, .int x2)] [] h := by
  intro n
  induction n with
  | zero => intro x1 x2 h hg; exact nomatch (show none = some r from hg)
  | succ n ih =>
    intro x1 x2 h hg
    rw [g_X4_readTape_c5_20] at hg
    refine z_iload_n (pc := 20) hK 2 dX4_readTape_20 rfl (z_sipush (pc := 21) hK dX4_readTape_21 zc_s1000 (z_icmp_ge (pc := 24) hK 69 dX4_readTape_24 (by decide) (fun c_4 => ?_) (fun c_4 => ?_)))
    · rw [if_pos c_4] at hg
      exact zsub (lv' := [(0, .ref (G.2.2.2 t0))]) [0] rfl (b_X4_readTape_c5_69 hK ht0 hE h hg)
    · rw [if_neg c_4] at hg
      refine z_iload_n (pc := 27) hK 1 dX4_readTape_27 rfl (z_if_eq (pc := 28) hK 69 dX4_readTape_28 (by decide) (fun c_5 => ?_) (fun c_5 => ?_))
      · rw [if_pos c_5] at hg
        exact zsub (lv' := [(0, .ref (G.2.2.2 t0))]) [0] rfl (b_X4_readTape_c5_69 hK ht0 hE h hg)
      · rw [if_neg c_5] at hg
        refine z_aload_n (pc := 31) hK 0 dX4_readTape_31 rfl (z_getR (pc := 32) hK f_X4_9_5 ht0 dX4_readTape_32 (z_getI (pc := 35) hK f_X4_31_7 (zt_5_0 ht0) dX4_readTape_35 (z_if_eq (pc := 38) hK 69 dX4_readTape_38 (by decide) (fun c_6 => ?_) (fun c_6 => ?_))))
        · rw [if_pos c_6] at hg
          exact zsub (lv' := [(0, .ref (G.2.2.2 t0))]) [0] rfl (b_X4_readTape_c5_69 hK ht0 hE h hg)
        · rw [if_neg c_6] at hg
          obtain ⟨v_7, qv_7, hg⟩ := zbind_some hg
          refine z_aload_n (pc := 41) hK 0 dX4_readTape_41 rfl (z_callUi (pc := 42) hK [] (m_X6_readLine (zC_D hK) ht0 qv_7) su_X6_readLine_X4 q_670 ht0 rfl [] rfl (Nat.le_of_ble_eq_true rfl) ⟨by decide, by decide⟩ dX4_readTape_42 (z_if_eq (pc := 45) hK 61 dX4_readTape_45 (by decide) (fun c_8 => ?_) (fun c_8 => ?_)))
          · rw [if_pos c_8] at hg
            exact z_iconst (pc := 61) hK dX4_readTape_61 zc_i0 (z_istore_n (pc := 62) hK (lv' := [(1, .int 0), (0, .ref (G.2.2.2 t0)), (2, .int x2)]) dX4_readTape_62 (by decide) rfl (z_iinc (pc := 63) hK 2 (lv' := [(2, .int (x2 + 1)), (1, .int 0), (0, .ref (G.2.2.2 t0))]) dX4_readTape_63 rfl (zc_n1 _) (by decide) rfl (z_goto (pc := 66) hK 20 dX4_readTape_66 (by decide) (zsub (lv' := [(0, .ref (G.2.2.2 t0)), (1, .int 0), (2, .int (x2 + 1))]) [2, 1, 0] rfl (ih 0 (x2 + 1) v_7.2 hg)))))
          · rw [if_neg c_8] at hg
            obtain ⟨v_9, qv_9, hg⟩ := zbind_some hg
            refine z_aload_n (pc := 48) hK 0 dX4_readTape_48 rfl (z_bipush (pc := 49) hK dX4_readTape_49 zc_b11 (z_callUi (pc := 51) hK [.int 11] (m_X4_take_c5 (zC_D hK) ht0 qv_9) su_X4_take_c5_X4 q_830 ht0 rfl [] rfl (Nat.le_of_ble_eq_true rfl) ⟨by decide, by decide⟩ dX4_readTape_51 (z_if_eq (pc := 54) hK 61 dX4_readTape_54 (by decide) (fun c_10 => ?_) (fun c_10 => ?_))))
            · rw [if_pos c_10] at hg
              exact z_iconst (pc := 61) hK dX4_readTape_61 zc_i0 (z_istore_n (pc := 62) hK (lv' := [(1, .int 0), (0, .ref (G.2.2.2 t0)), (2, .int x2)]) dX4_readTape_62 (by decide) rfl (z_iinc (pc := 63) hK 2 (lv' := [(2, .int (x2 + 1)), (1, .int 0), (0, .ref (G.2.2.2 t0))]) dX4_readTape_63 rfl (zc_n1 _) (by decide) rfl (z_goto (pc := 66) hK 20 dX4_readTape_66 (by decide) (zsub (lv' := [(0, .ref (G.2.2.2 t0)), (1, .int 0), (2, .int (x2 + 1))]) [2, 1, 0] rfl (ih 0 (x2 + 1) v_9.2 hg)))))
            · rw [if_neg c_10] at hg
              exact z_iconst (pc := 57) hK dX4_readTape_57 zc_i1 (z_goto (pc := 58) hK 62 dX4_readTape_58 (by decide) (z_istore_n (pc := 62) hK (lv' := [(1, .int 1), (0, .ref (G.2.2.2 t0)), (2, .int x2)]) dX4_readTape_62 (by decide) rfl (z_iinc (pc := 63) hK 2 (lv' := [(2, .int (x2 + 1)), (1, .int 1), (0, .ref (G.2.2.2 t0))]) dX4_readTape_63 rfl (zc_n1 _) (by decide) rfl (z_goto (pc := 66) hK 20 dX4_readTape_66 (by decide) (zsub (lv' := [(0, .ref (G.2.2.2 t0)), (1, .int 1), (2, .int (x2 + 1))]) [2, 1, 0] rfl (ih 1 (x2 + 1) v_9.2 hg))))))
set_option maxRecDepth 100000 in
set_option maxHeartbeats 4000000 in
theorem b_X4_readTape_c5 {K : zK} {G : zG} (hK : zC K G cX4_readTape RX4 3 9 197 (some .int)) {h : zH} {t0 : Nat} (ht0 : zT t0 = (5, 0)) {r : Int32 × zH} (hE : zE K G (some (.int r.1)) r.2) (hg : g_X4_readTape_c5 h t0 = some r) : zW K G 3 0 [(0, .ref (G.2.2.2 t0))] [] h := by
  rw [g_X4_readTape_c5] at hg
  obtain ⟨v_1, qv_1, hg⟩ := zbind_some hg
  obtain ⟨h_2, eh_2, hg⟩ := zlet_some hg
  obtain ⟨v_3, qv_3, hg⟩ := zbind_some hg
  exact z_aload_n (pc := 0) hK 0 dX4_readTape_0 rfl (z_callUv (pc := 1) hK [] (m_X6_begin (zC_D hK) ht0 qv_1) su_X6_begin_X4 q_512 ht0 rfl [] rfl (Nat.le_of_ble_eq_true rfl) ⟨by decide, by decide⟩ dX4_readTape_1 (z_aload_n (pc := 4) hK 0 dX4_readTape_4 rfl (z_iconst (pc := 5) hK dX4_readTape_5 zc_i0 (z_putI (pc := 6) hK f_X4_22_5 fp_5_3 ht0 dX4_readTape_6 (z_nameH eh_2 (z_aload_n (pc := 9) hK 0 dX4_readTape_9 rfl (z_getR (pc := 10) hK f_X4_9_5 ht0 dX4_readTape_10 (z_callVv (pc := 13) hK [] (m_X8_lookAtFirst (zC_D hK) (zt_5_0 ht0) qv_3) sv_X8_lookAtFirst q_532 (zt_5_0 ht0) rfl [] rfl (Nat.le_of_ble_eq_true rfl) ⟨by decide, by decide⟩ dX4_readTape_13 (z_iconst (pc := 16) hK dX4_readTape_16 zc_i1 (z_istore_n (pc := 17) hK (lv' := [(1, .int 1), (0, .ref (G.2.2.2 t0))]) dX4_readTape_17 (by decide) rfl (z_iconst (pc := 18) hK dX4_readTape_18 zc_i0 (z_istore_n (pc := 19) hK (lv' := [(2, .int 0), (1, .int 1), (0, .ref (G.2.2.2 t0))]) dX4_readTape_19 (by decide) rfl (zsub (lv' := [(0, .ref (G.2.2.2 t0)), (1, .int 1), (2, .int 0)]) [2, 1, 0] rfl (b_X4_readTape_c5_20 hK ht0 hE zfu 1 0 v_3 hg))))))))))))))
theorem m_X4_readTape_c5 {l : Launch} {G : zG} (hG : zD G) {h : zH} {t0 : Nat} (ht0 : zT t0 = (5, 0)) {r : Int32 × zH} (hg : g_X4_readTape_c5 h t0 = some r) : zM l G yX4_readTape cX4_readTape 3 (some .int) 9 197 [.ref (G.2.2.2 t0)] h (some (.int r.1)) r.2 :=
  zM_of hG pn_X4 (Nat.le_of_ble_eq_true rfl) (fun K _ hK hE => b_X4_readTape_c5 hK ht0 hE hg)
theorem dX11_republic_0 : decode cX11_republic 0 = .ok (.aload_n 0, 1) := by decide +kernel
theorem dX11_republic_1 : decode cX11_republic 1 = .ok (.getfield 28, 3) := by decide +kernel
theorem dX11_republic_4 : decode cX11_republic 4 = .ok (.invokevirtual 77, 3) := by decide +kernel
theorem dX11_republic_7 : decode cX11_republic 7 = .ok (.istore_n 1, 1) := by decide +kernel
theorem dX11_republic_8 : decode cX11_republic 8 = .ok (.iload_n 1, 1) := by decide +kernel
theorem dX11_republic_9 : decode cX11_republic 9 = .ok (.ifCond .ne 61, 3) := by decide +kernel
theorem dX11_republic_12 : decode cX11_republic 12 = .ok (.aload_n 0, 1) := by decide +kernel
theorem dX11_republic_13 : decode cX11_republic 13 = .ok (.getfield 19, 3) := by decide +kernel
theorem dX11_republic_16 : decode cX11_republic 16 = .ok (.aload_n 0, 1) := by decide +kernel
theorem dX11_republic_17 : decode cX11_republic 17 = .ok (.getfield 28, 3) := by decide +kernel
theorem dX11_republic_20 : decode cX11_republic 20 = .ok (.getfield 81, 3) := by decide +kernel
theorem dX11_republic_23 : decode cX11_republic 23 = .ok (.invokevirtual 84, 3) := by decide +kernel
theorem dX11_republic_26 : decode cX11_republic 26 = .ok (.aload_n 0, 1) := by decide +kernel
theorem dX11_republic_27 : decode cX11_republic 27 = .ok (.getfield 44, 3) := by decide +kernel
theorem dX11_republic_30 : decode cX11_republic 30 = .ok (.invokevirtual 87, 3) := by decide +kernel
theorem dX11_republic_33 : decode cX11_republic 33 = .ok (.aload_n 0, 1) := by decide +kernel
theorem dX11_republic_34 : decode cX11_republic 34 = .ok (.getfield 54, 3) := by decide +kernel
theorem dX11_republic_37 : decode cX11_republic 37 = .ok (.invokevirtual 90, 3) := by decide +kernel
theorem dX11_republic_40 : decode cX11_republic 40 = .ok (.aload_n 0, 1) := by decide +kernel
theorem dX11_republic_41 : decode cX11_republic 41 = .ok (.getfield 65, 3) := by decide +kernel
theorem dX11_republic_44 : decode cX11_republic 44 = .ok (.invokevirtual 91, 3) := by decide +kernel
theorem dX11_republic_47 : decode cX11_republic 47 = .ok (.iconst 0, 1) := by decide +kernel
theorem dX11_republic_48 : decode cX11_republic 48 = .ok (.istore_n 2, 1) := by decide +kernel
theorem dX11_republic_49 : decode cX11_republic 49 = .ok (.iload_n 2, 1) := by decide +kernel
theorem dX11_republic_50 : decode cX11_republic 50 = .ok (.iconst 4, 1) := by decide +kernel
theorem dX11_republic_51 : decode cX11_republic 51 = .ok (.if_icmp .ge 19, 3) := by decide +kernel
theorem dX11_republic_54 : decode cX11_republic 54 = .ok (.aload_n 0, 1) := by decide +kernel
theorem dX11_republic_55 : decode cX11_republic 55 = .ok (.getfield 58, 3) := by decide +kernel
theorem dX11_republic_58 : decode cX11_republic 58 = .ok (.iload_n 2, 1) := by decide +kernel
theorem dX11_republic_59 : decode cX11_republic 59 = .ok (.aaload, 1) := by decide +kernel
theorem dX11_republic_60 : decode cX11_republic 60 = .ok (.iconst 0, 1) := by decide +kernel
theorem dX11_republic_61 : decode cX11_republic 61 = .ok (.putfield 94, 3) := by decide +kernel
theorem dX11_republic_64 : decode cX11_republic 64 = .ok (.iinc 2 1, 3) := by decide +kernel
theorem dX11_republic_67 : decode cX11_republic 67 = .ok (.goto (-18), 3) := by decide +kernel
theorem dX11_republic_70 : decode cX11_republic 70 = .ok (.iload_n 1, 1) := by decide +kernel
theorem dX11_republic_71 : decode cX11_republic 71 = .ok (.ireturn, 1) := by decide +kernel
def g_X11_republic_49 (t0 : Nat)  : Nat → Int32 → Int32 → zH → Option (Int32 × zH)
  | 0, _, _, _ => none
  | n + 1, x1, x2, h => if 4 ≤ x2 then (some (x1, h)) else (zgu (zin x2 4) <| zlet (zpi h (zR (zR t0 7) (zx x2)) 4 0) fun h_9 => g_X11_republic_49 t0 n x1 (x2 + 1) h_9)
def g_X11_republic (h : zH) (t0 : Nat) : Option (Int32 × zH) := (g_X4_readTape_c5 h (zR t0 2)).bind fun v_1 => if v_1.1 = 0 then ((g_X5_become v_1.2 (zR t0 1) (zR (zR t0 2) 1)).bind fun v_3 => (g_X7_begin v_3 (zR t0 4)).bind fun v_4 => (g_X2_begin v_4 (zR t0 6)).bind fun v_5 => (g_X3_forget v_5 (zR t0 8)).bind fun v_6 => g_X11_republic_49 t0 zfu v_1.1 0 v_6) else (some (v_1.1, v_1.2))
set_option maxRecDepth 100000 in
set_option maxHeartbeats 4000000 in
theorem b_X11_republic_49 {K : zK} {G : zG} (hK : zC K G cX11_republic RX11 3 10 219 (some .int)) {t0 : Nat} (ht0 : zT t0 = (10, 0)) {r : Int32 × zH} (hE : zE K G (some (.int r.1)) r.2) : ∀ (n : Nat) (x1 : Int32) (x2 : Int32) (h : zH), g_X11_republic_49 t0 n x1 x2 h = some r → zW K G 3 49 [(0, .ref (G.2.2.2 t0)), (1, .int x1), (2, .int x2)] [] h := by
  intro n
  induction n with
  | zero => intro x1 x2 h hg; exact nomatch (show none = some r from hg)
  | succ n ih =>
    intro x1 x2 h hg
    rw [g_X11_republic_49] at hg
    refine z_iload_n (pc := 49) hK 2 dX11_republic_49 rfl (z_iconst (pc := 50) hK dX11_republic_50 zc_i4 (z_icmp_ge (pc := 51) hK 70 dX11_republic_51 (by decide) (fun c_7 => ?_) (fun c_7 => ?_)))
    · rw [if_pos c_7] at hg
      exact z_iload_n (pc := 70) hK 1 dX11_republic_70 rfl (z_iretE (pc := 71) hK hE hg dX11_republic_71)
    · rw [if_neg c_7] at hg
      obtain ⟨c_8, hg⟩ := zgu_some hg
      obtain ⟨h_9, eh_9, hg⟩ := zlet_some hg
      exact z_aload_n (pc := 54) hK 0 dX11_republic_54 rfl (z_getR (pc := 55) hK f_X11_58_10 ht0 dX11_republic_55 (z_iload_n (pc := 58) hK 2 dX11_republic_58 rfl (z_aaldM (pc := 59) hK (zt_10_7 ht0) c_8 dX11_republic_59 (z_iconst (pc := 60) hK dX11_republic_60 zc_i0 (z_putZ (pc := 61) hK f_X11_94_2 fp_2_4 rfl (zt_25 (zt_10_7 ht0) (zin_lt c_8)) dX11_republic_61 (z_nameH eh_9 (z_iinc (pc := 64) hK 2 (lv' := [(2, .int (x2 + 1)), (0, .ref (G.2.2.2 t0)), (1, .int x1)]) dX11_republic_64 rfl (zc_n1 _) (by decide) rfl (z_goto (pc := 67) hK 49 dX11_republic_67 (by decide) (zsub (lv' := [(0, .ref (G.2.2.2 t0)), (1, .int x1), (2, .int (x2 + 1))]) [1, 2, 0] rfl (ih x1 (x2 + 1) h_9 hg))))))))))
set_option maxRecDepth 100000 in
set_option maxHeartbeats 4000000 in
theorem b_X11_republic {K : zK} {G : zG} (hK : zC K G cX11_republic RX11 3 10 219 (some .int)) {h : zH} {t0 : Nat} (ht0 : zT t0 = (10, 0)) {r : Int32 × zH} (hE : zE K G (some (.int r.1)) r.2) (hg : g_X11_republic h t0 = some r) : zW K G 3 0 [(0, .ref (G.2.2.2 t0))] [] h := by
  rw [g_X11_republic] at hg
  obtain ⟨v_1, qv_1, hg⟩ := zbind_some hg
  refine z_aload_n (pc := 0) hK 0 dX11_republic_0 rfl (z_getR (pc := 1) hK f_X11_28_10 ht0 dX11_republic_1 (z_callUi (pc := 4) hK [] (m_X4_readTape_c5 (zC_D hK) (zt_10_2 ht0) qv_1) su_X4_readTape_c5_X6 q_506 (zt_10_2 ht0) rfl [] rfl (Nat.le_of_ble_eq_true rfl) ⟨by decide, by decide⟩ dX11_republic_4 (z_istore_n (pc := 7) hK (lv' := [(1, .int v_1.1), (0, .ref (G.2.2.2 t0))]) dX11_republic_7 (by decide) rfl (z_iload_n (pc := 8) hK 0 dX11_republic_8 rfl (z_if_ne (pc := 9) hK 70 dX11_republic_9 (by decide) (fun c_2 => ?_) (fun c_2 => ?_))))))
  · rw [if_neg c_2] at hg
    exact z_iload_n (pc := 70) hK 0 dX11_republic_70 rfl (z_iretE (pc := 71) hK hE hg dX11_republic_71)
  · rw [if_pos c_2] at hg
    obtain ⟨v_3, qv_3, hg⟩ := zbind_some hg
    obtain ⟨v_4, qv_4, hg⟩ := zbind_some hg
    obtain ⟨v_5, qv_5, hg⟩ := zbind_some hg
    obtain ⟨v_6, qv_6, hg⟩ := zbind_some hg
    exact z_aload_n (pc := 12) hK 1 dX11_republic_12 rfl (z_getR (pc := 13) hK f_X11_19_10 ht0 dX11_republic_13 (z_aload_n (pc := 16) hK 1 dX11_republic_16 rfl (z_getR (pc := 17) hK f_X11_28_10 ht0 dX11_republic_17 (z_getR (pc := 20) hK f_X11_81_5 (zt_10_2 ht0) dX11_republic_20 (z_callVv (pc := 23) hK [.ref (G.2.2.2 (zR (zR t0 2) 1))] (m_X5_become (zC_D hK) (zt_10_1 ht0) (zt_5_1 (zt_10_2 ht0)) qv_3) sv_X5_become q_831 (zt_10_1 ht0) rfl [] rfl (Nat.le_of_ble_eq_true rfl) ⟨by decide, by decide⟩ dX11_republic_23 (z_aload_n (pc := 26) hK 1 dX11_republic_26 rfl (z_getR (pc := 27) hK f_X11_44_10 ht0 dX11_republic_27 (z_callVv (pc := 30) hK [] (m_X7_begin (zC_D hK) (zt_10_4 ht0) qv_4) sv_X7_begin q_843 (zt_10_4 ht0) rfl [] rfl (Nat.le_of_ble_eq_true rfl) ⟨by decide, by decide⟩ dX11_republic_30 (z_aload_n (pc := 33) hK 1 dX11_republic_33 rfl (z_getR (pc := 34) hK f_X11_54_10 ht0 dX11_republic_34 (z_callVv (pc := 37) hK [] (m_X2_begin (zC_D hK) (zt_10_6 ht0) qv_5) sv_X2_begin q_849 (zt_10_6 ht0) rfl [] rfl (Nat.le_of_ble_eq_true rfl) ⟨by decide, by decide⟩ dX11_republic_37 (z_aload_n (pc := 40) hK 1 dX11_republic_40 rfl (z_getR (pc := 41) hK f_X11_65_10 ht0 dX11_republic_41 (z_callVv (pc := 44) hK [] (m_X3_forget (zC_D hK) (zt_10_8 ht0) qv_6) sv_X3_forget q_854 (zt_10_8 ht0) rfl [] rfl (Nat.le_of_ble_eq_true rfl) ⟨by decide, by decide⟩ dX11_republic_44 (z_iconst (pc := 47) hK dX11_republic_47 zc_i0 (z_istore_n (pc := 48) hK (lv' := [(2, .int 0), (1, .int v_1.1), (0, .ref (G.2.2.2 t0))]) dX11_republic_48 (by decide) rfl (zsub (lv' := [(0, .ref (G.2.2.2 t0)), (1, .int v_1.1), (2, .int 0)]) [2, 1, 0] rfl (b_X11_republic_49 hK ht0 hE zfu v_1.1 0 v_6 hg))))))))))))))))))
theorem m_X11_republic {l : Launch} {G : zG} (hG : zD G) {h : zH} {t0 : Nat} (ht0 : zT t0 = (10, 0)) {r : Int32 × zH} (hg : g_X11_republic h t0 = some r) : zM l G yX11_republic cX11_republic 3 (some .int) 10 219 [.ref (G.2.2.2 t0)] h (some (.int r.1)) r.2 :=
  zM_of hG pn_X11 (Nat.le_of_ble_eq_true rfl) (fun K _ hK hE => b_X11_republic hK ht0 hE hg)
def g_X4_take_c9 (h : zH) (t0 : Nat) (x1 : Int32) : Option (Bool × zH) := if (h.1 (zR t0 0) 2) = x1 then ((g_X8_lookAtNext h (zR t0 0)).bind fun v_2 => some (true, v_2)) else ((g_X4_fail_c9 h t0 1).bind fun v_3 => some (v_3.1, v_3.2))
set_option maxRecDepth 100000 in
set_option maxHeartbeats 4000000 in
theorem b_X4_take_c9 {K : zK} {G : zG} (hK : zC K G cX4_take RX4 2 6 130 (some .boolean)) {h : zH} {t0 : Nat} {x1 : Int32} (ht0 : zT t0 = (9, 0)) {r : Bool × zH} (hE : zE K G (some (.int (zb r.1))) r.2) (hg : g_X4_take_c9 h t0 x1 = some r) : zW K G 2 0 [(0, .ref (G.2.2.2 t0)), (1, .int x1)] [] h := by
  rw [g_X4_take_c9] at hg
  refine z_aload_n (pc := 0) hK 0 dX4_take_0 rfl (z_getR (pc := 1) hK f_X4_9_9 ht0 dX4_take_1 (z_getI (pc := 4) hK f_X4_31_7 (zt_9_0 ht0) dX4_take_4 (z_iload_n (pc := 7) hK 1 dX4_take_7 rfl (z_icmp_eq (pc := 8) hK 17 dX4_take_8 (by decide) (fun c_1 => ?_) (fun c_1 => ?_)))))
  · rw [if_pos c_1] at hg
    obtain ⟨v_2, qv_2, hg⟩ := zbind_some hg
    exact z_aload_n (pc := 17) hK 0 dX4_take_17 rfl (z_getR (pc := 18) hK f_X4_9_9 ht0 dX4_take_18 (z_callVv (pc := 21) hK [] (m_X8_lookAtNext (zC_D hK) (zt_9_0 ht0) qv_2) sv_X8_lookAtNext q_707 (zt_9_0 ht0) rfl [] rfl (Nat.le_of_ble_eq_true rfl) ⟨by decide, by decide⟩ dX4_take_21 (z_iconst (pc := 24) hK dX4_take_24 zc_i1 (z_zretE (pc := 25) hK rfl hE hg dX4_take_25))))
  · rw [if_neg c_1] at hg
    obtain ⟨v_3, qv_3, hg⟩ := zbind_some hg
    exact z_aload_n (pc := 11) hK 0 dX4_take_11 rfl (z_iconst (pc := 12) hK dX4_take_12 zc_i1 (z_callUi (pc := 13) hK [.int 1] (m_X4_fail_c9 (zC_D hK) ht0 qv_3) su_X4_fail_c9_X4 q_706 ht0 rfl [] rfl (Nat.le_of_ble_eq_true rfl) ⟨by decide, by decide⟩ dX4_take_13 (z_zretE (pc := 16) hK rfl hE hg dX4_take_16)))
theorem m_X4_take_c9 {l : Launch} {G : zG} (hG : zD G) {h : zH} {t0 : Nat} {x1 : Int32} (ht0 : zT t0 = (9, 0)) {r : Bool × zH} (hg : g_X4_take_c9 h t0 x1 = some r) : zM l G yX4_take cX4_take 2 (some .boolean) 6 130 [.ref (G.2.2.2 t0), .int x1] h (some (.int (zb r.1))) r.2 :=
  zM_of hG pn_X4 (Nat.le_of_ble_eq_true rfl) (fun K _ hK hE => b_X4_take_c9 hK ht0 hE hg)
def g_X4_readTape_c9_69 (t0 : Nat)  (h : zH) : Option (Int32 × zH) := zlet (zpi h (zR t0 0) 1 0) fun h_11 => some (h_11.1 t0 3, h_11)
def g_X4_readTape_c9_20 (t0 : Nat)  : Nat → Int32 → Int32 → zH → Option (Int32 × zH)
  | 0, _, _, _ => none
  | n + 1, x1, x2, h => if 1000 ≤ x2 then (g_X4_readTape_c9_69 t0 h) else (if x1 = 0 then (g_X4_readTape_c9_69 t0 h) else (if (h.1 (zR t0 0) 2) = 0 then (g_X4_readTape_c9_69 t0 h) else ((g_X10_readLine h t0).bind fun v_7 => if (zb v_7.1) = 0 then (g_X4_readTape_c9_20 t0 n 0 (x2 + 1) v_7.2) else ((g_X4_take_c9 v_7.2 t0 11).bind fun v_9 => if (zb v_9.1) = 0 then (g_X4_readTape_c9_20 t0 n 0 (x2 + 1) v_9.2) else (g_X4_readTape_c9_20 t0 n 1 (x2 + 1) v_9.2)))))
def g_X4_readTape_c9 (h : zH) (t0 : Nat) : Option (Int32 × zH) := (g_X10_begin h t0).bind fun v_1 => zlet (zpi v_1 t0 3 0) fun h_2 => (g_X8_lookAtFirst h_2 (zR t0 0)).bind fun v_3 => g_X4_readTape_c9_20 t0 zfu 1 0 v_3
set_option maxRecDepth 100000 in
set_option maxHeartbeats 4000000 in
theorem b_X4_readTape_c9_69 {K : zK} {G : zG} (hK : zC K G cX4_readTape RX4 3 7 153 (some .int)) {t0 : Nat} (ht0 : zT t0 = (9, 0)) {r : Int32 × zH} (hE : zE K G (some (.int r.1)) r.2) (h : zH) (hg : g_X4_readTape_c9_69 t0 h = some r) : zW K G 3 69 [(0, .ref (G.2.2.2 t0))] [] h := by
  rw [g_X4_readTape_c9_69] at hg
  obtain ⟨h_11, eh_11, hg⟩ := zlet_some hg
  exact z_aload_n (pc := 69) hK 0 dX4_readTape_69 rfl (z_getR (pc := 70) hK f_X4_9_9 ht0 dX4_readTape_70 (z_iconst (pc := 73) hK dX4_readTape_73 zc_i0 (z_putI (pc := 74) hK f_X4_42_7 fp_7_1 (zt_9_0 ht0) dX4_readTape_74 (z_nameH eh_11 (z_aload_n (pc := 77) hK 0 dX4_readTape_77 rfl (z_getI (pc := 78) hK f_X4_22_9 ht0 dX4_readTape_78 (z_iretE (pc := 81) hK hE hg dX4_readTape_81)))))))
set_option maxRecDepth 100000 in
set_option maxHeartbeats 4000000 in
theorem b_X4_readTape_c9_20 {K : zK} {G : zG} (hK : zC K G cX4_readTape RX4 3 7 153 (some .int)) {t0 : Nat} (ht0 : zT t0 = (9, 0)) {r : Int32 × zH} (hE : zE K G (some (.int r.1)) r.2) : ∀ (n : Nat) (x1 : Int32) (x2 : Int32) (h : zH), g_X4_readTape_c9_20 t0 n x1 x2 h = some r → zW K G 3 20 [(0, .ref (G.2.2.2 t0)), (1, .int x1), (2, .int x2)] [] h := by
  intro n
  induction n with
  | zero => intro x1 x2 h hg; exact nomatch (show none = some r from hg)
  | succ n ih =>
    intro x1 x2 h hg
    rw [g_X4_readTape_c9_20] at hg
    refine z_iload_n (pc := 20) hK 2 dX4_readTape_20 rfl (z_sipush (pc := 21) hK dX4_readTape_21 zc_s1000 (z_icmp_ge (pc := 24) hK 69 dX4_readTape_24 (by decide) (fun c_4 => ?_) (fun c_4 => ?_)))
    · rw [if_pos c_4] at hg
      exact zsub (lv' := [(0, .ref (G.2.2.2 t0))]) [0] rfl (b_X4_readTape_c9_69 hK ht0 hE h hg)
    · rw [if_neg c_4] at hg
      refine z_iload_n (pc := 27) hK 1 dX4_readTape_27 rfl (z_if_eq (pc := 28) hK 69 dX4_readTape_28 (by decide) (fun c_5 => ?_) (fun c_5 => ?_))
      · rw [if_pos c_5] at hg
        exact zsub (lv' := [(0, .ref (G.2.2.2 t0))]) [0] rfl (b_X4_readTape_c9_69 hK ht0 hE h hg)
      · rw [if_neg c_5] at hg
        refine z_aload_n (pc := 31) hK 0 dX4_readTape_31 rfl (z_getR (pc := 32) hK f_X4_9_9 ht0 dX4_readTape_32 (z_getI (pc := 35) hK f_X4_31_7 (zt_9_0 ht0) dX4_readTape_35 (z_if_eq (pc := 38) hK 69 dX4_readTape_38 (by decide) (fun c_6 => ?_) (fun c_6 => ?_))))
        · rw [if_pos c_6] at hg
          exact zsub (lv' := [(0, .ref (G.2.2.2 t0))]) [0] rfl (b_X4_readTape_c9_69 hK ht0 hE h hg)
        · rw [if_neg c_6] at hg
          obtain ⟨v_7, qv_7, hg⟩ := zbind_some hg
          refine z_aload_n (pc := 41) hK 0 dX4_readTape_41 rfl (z_callUi (pc := 42) hK [] (m_X10_readLine (zC_D hK) ht0 qv_7) su_X10_readLine_X4 q_670 ht0 rfl [] rfl (Nat.le_of_ble_eq_true rfl) ⟨by decide, by decide⟩ dX4_readTape_42 (z_if_eq (pc := 45) hK 61 dX4_readTape_45 (by decide) (fun c_8 => ?_) (fun c_8 => ?_)))
          · rw [if_pos c_8] at hg
            exact z_iconst (pc := 61) hK dX4_readTape_61 zc_i0 (z_istore_n (pc := 62) hK (lv' := [(1, .int 0), (0, .ref (G.2.2.2 t0)), (2, .int x2)]) dX4_readTape_62 (by decide) rfl (z_iinc (pc := 63) hK 2 (lv' := [(2, .int (x2 + 1)), (1, .int 0), (0, .ref (G.2.2.2 t0))]) dX4_readTape_63 rfl (zc_n1 _) (by decide) rfl (z_goto (pc := 66) hK 20 dX4_readTape_66 (by decide) (zsub (lv' := [(0, .ref (G.2.2.2 t0)), (1, .int 0), (2, .int (x2 + 1))]) [2, 1, 0] rfl (ih 0 (x2 + 1) v_7.2 hg)))))
          · rw [if_neg c_8] at hg
            obtain ⟨v_9, qv_9, hg⟩ := zbind_some hg
            refine z_aload_n (pc := 48) hK 0 dX4_readTape_48 rfl (z_bipush (pc := 49) hK dX4_readTape_49 zc_b11 (z_callUi (pc := 51) hK [.int 11] (m_X4_take_c9 (zC_D hK) ht0 qv_9) su_X4_take_c9_X4 q_830 ht0 rfl [] rfl (Nat.le_of_ble_eq_true rfl) ⟨by decide, by decide⟩ dX4_readTape_51 (z_if_eq (pc := 54) hK 61 dX4_readTape_54 (by decide) (fun c_10 => ?_) (fun c_10 => ?_))))
            · rw [if_pos c_10] at hg
              exact z_iconst (pc := 61) hK dX4_readTape_61 zc_i0 (z_istore_n (pc := 62) hK (lv' := [(1, .int 0), (0, .ref (G.2.2.2 t0)), (2, .int x2)]) dX4_readTape_62 (by decide) rfl (z_iinc (pc := 63) hK 2 (lv' := [(2, .int (x2 + 1)), (1, .int 0), (0, .ref (G.2.2.2 t0))]) dX4_readTape_63 rfl (zc_n1 _) (by decide) rfl (z_goto (pc := 66) hK 20 dX4_readTape_66 (by decide) (zsub (lv' := [(0, .ref (G.2.2.2 t0)), (1, .int 0), (2, .int (x2 + 1))]) [2, 1, 0] rfl (ih 0 (x2 + 1) v_9.2 hg)))))
            · rw [if_neg c_10] at hg
              exact z_iconst (pc := 57) hK dX4_readTape_57 zc_i1 (z_goto (pc := 58) hK 62 dX4_readTape_58 (by decide) (z_istore_n (pc := 62) hK (lv' := [(1, .int 1), (0, .ref (G.2.2.2 t0)), (2, .int x2)]) dX4_readTape_62 (by decide) rfl (z_iinc (pc := 63) hK 2 (lv' := [(2, .int (x2 + 1)), (1, .int 1), (0, .ref (G.2.2.2 t0))]) dX4_readTape_63 rfl (zc_n1 _) (by decide) rfl (z_goto (pc := 66) hK 20 dX4_readTape_66 (by decide) (zsub (lv' := [(0, .ref (G.2.2.2 t0)), (1, .int 1), (2, .int (x2 + 1))]) [2, 1, 0] rfl (ih 1 (x2 + 1) v_9.2 hg))))))
set_option maxRecDepth 100000 in
set_option maxHeartbeats 4000000 in
theorem b_X4_readTape_c9 {K : zK} {G : zG} (hK : zC K G cX4_readTape RX4 3 7 153 (some .int)) {h : zH} {t0 : Nat} (ht0 : zT t0 = (9, 0)) {r : Int32 × zH} (hE : zE K G (some (.int r.1)) r.2) (hg : g_X4_readTape_c9 h t0 = some r) : zW K G 3 0 [(0, .ref (G.2.2.2 t0))] [] h := by
  rw [g_X4_readTape_c9] at hg
  obtain ⟨v_1, qv_1, hg⟩ := zbind_some hg
  obtain ⟨h_2, eh_2, hg⟩ := zlet_some hg
  obtain ⟨v_3, qv_3, hg⟩ := zbind_some hg
  exact z_aload_n (pc := 0) hK 0 dX4_readTape_0 rfl (z_callUv (pc := 1) hK [] (m_X10_begin (zC_D hK) ht0 qv_1) su_X10_begin_X4 q_512 ht0 rfl [] rfl (Nat.le_of_ble_eq_true rfl) ⟨by decide, by decide⟩ dX4_readTape_1 (z_aload_n (pc := 4) hK 0 dX4_readTape_4 rfl (z_iconst (pc := 5) hK dX4_readTape_5 zc_i0 (z_putI (pc := 6) hK f_X4_22_9 fp_9_3 ht0 dX4_readTape_6 (z_nameH eh_2 (z_aload_n (pc := 9) hK 0 dX4_readTape_9 rfl (z_getR (pc := 10) hK f_X4_9_9 ht0 dX4_readTape_10 (z_callVv (pc := 13) hK [] (m_X8_lookAtFirst (zC_D hK) (zt_9_0 ht0) qv_3) sv_X8_lookAtFirst q_532 (zt_9_0 ht0) rfl [] rfl (Nat.le_of_ble_eq_true rfl) ⟨by decide, by decide⟩ dX4_readTape_13 (z_iconst (pc := 16) hK dX4_readTape_16 zc_i1 (z_istore_n (pc := 17) hK (lv' := [(1, .int 1), (0, .ref (G.2.2.2 t0))]) dX4_readTape_17 (by decide) rfl (z_iconst (pc := 18) hK dX4_readTape_18 zc_i0 (z_istore_n (pc := 19) hK (lv' := [(2, .int 0), (1, .int 1), (0, .ref (G.2.2.2 t0))]) dX4_readTape_19 (by decide) rfl (zsub (lv' := [(0, .ref (G.2.2.2 t0)), (1, .int 1), (2, .int 0)]) [2, 1, 0] rfl (b_X4_readTape_c9_20 hK ht0 hE zfu 1 0 v_3 hg))))))))))))))
theorem m_X4_readTape_c9 {l : Launch} {G : zG} (hG : zD G) {h : zH} {t0 : Nat} (ht0 : zT t0 = (9, 0)) {r : Int32 × zH} (hg : g_X4_readTape_c9 h t0 = some r) : zM l G yX4_readTape cX4_readTape 3 (some .int) 7 153 [.ref (G.2.2.2 t0)] h (some (.int r.1)) r.2 :=
  zM_of hG pn_X4 (Nat.le_of_ble_eq_true rfl) (fun K _ hK hE => b_X4_readTape_c9 hK ht0 hE hg)
theorem dX11_years_0 : decode cX11_years 0 = .ok (.aload_n 0, 1) := by decide +kernel
theorem dX11_years_1 : decode cX11_years 1 = .ok (.getfield 35, 3) := by decide +kernel
theorem dX11_years_4 : decode cX11_years 4 = .ok (.invokevirtual 98, 3) := by decide +kernel
theorem dX11_years_7 : decode cX11_years 7 = .ok (.istore_n 1, 1) := by decide +kernel
theorem dX11_years_8 : decode cX11_years 8 = .ok (.iload_n 1, 1) := by decide +kernel
theorem dX11_years_9 : decode cX11_years 9 = .ok (.ifCond .ne 20, 3) := by decide +kernel
theorem dX11_years_12 : decode cX11_years 12 = .ok (.aload_n 0, 1) := by decide +kernel
theorem dX11_years_13 : decode cX11_years 13 = .ok (.getfield 54, 3) := by decide +kernel
theorem dX11_years_16 : decode cX11_years 16 = .ok (.getfield 99, 3) := by decide +kernel
theorem dX11_years_19 : decode cX11_years 19 = .ok (.aload_n 0, 1) := by decide +kernel
theorem dX11_years_20 : decode cX11_years 20 = .ok (.getfield 35, 3) := by decide +kernel
theorem dX11_years_23 : decode cX11_years 23 = .ok (.getfield 103, 3) := by decide +kernel
theorem dX11_years_26 : decode cX11_years 26 = .ok (.invokevirtual 104, 3) := by decide +kernel
theorem dX11_years_29 : decode cX11_years 29 = .ok (.iload_n 1, 1) := by decide +kernel
theorem dX11_years_30 : decode cX11_years 30 = .ok (.ireturn, 1) := by decide +kernel
def g_X11_years (h : zH) (t0 : Nat) : Option (Int32 × zH) := (g_X4_readTape_c9 h (zR t0 3)).bind fun v_1 => if v_1.1 = 0 then ((g_X9_become v_1.2 (zR (zR t0 6) 1) (zR (zR t0 3) 4)).bind fun v_3 => some (v_1.1, v_3)) else (some (v_1.1, v_1.2))
set_option maxRecDepth 100000 in
set_option maxHeartbeats 4000000 in
theorem b_X11_years {K : zK} {G : zG} (hK : zC K G cX11_years RX11 2 8 175 (some .int)) {h : zH} {t0 : Nat} (ht0 : zT t0 = (10, 0)) {r : Int32 × zH} (hE : zE K G (some (.int r.1)) r.2) (hg : g_X11_years h t0 = some r) : zW K G 2 0 [(0, .ref (G.2.2.2 t0))] [] h := by
  rw [g_X11_years] at hg
  obtain ⟨v_1, qv_1, hg⟩ := zbind_some hg
  refine z_aload_n (pc := 0) hK 0 dX11_years_0 rfl (z_getR (pc := 1) hK f_X11_35_10 ht0 dX11_years_1 (z_callUi (pc := 4) hK [] (m_X4_readTape_c9 (zC_D hK) (zt_10_3 ht0) qv_1) su_X4_readTape_c9_X10 q_863 (zt_10_3 ht0) rfl [] rfl (Nat.le_of_ble_eq_true rfl) ⟨by decide, by decide⟩ dX11_years_4 (z_istore_n (pc := 7) hK (lv' := [(1, .int v_1.1), (0, .ref (G.2.2.2 t0))]) dX11_years_7 (by decide) rfl (z_iload_n (pc := 8) hK 0 dX11_years_8 rfl (z_if_ne (pc := 9) hK 29 dX11_years_9 (by decide) (fun c_2 => ?_) (fun c_2 => ?_))))))
  · rw [if_neg c_2] at hg
    exact z_iload_n (pc := 29) hK 0 dX11_years_29 rfl (z_iretE (pc := 30) hK hE hg dX11_years_30)
  · rw [if_pos c_2] at hg
    obtain ⟨v_3, qv_3, hg⟩ := zbind_some hg
    exact z_aload_n (pc := 12) hK 1 dX11_years_12 rfl (z_getR (pc := 13) hK f_X11_54_10 ht0 dX11_years_13 (z_getR (pc := 16) hK f_X11_99_2 (zt_10_6 ht0) dX11_years_16 (z_aload_n (pc := 19) hK 1 dX11_years_19 rfl (z_getR (pc := 20) hK f_X11_35_10 ht0 dX11_years_20 (z_getR (pc := 23) hK f_X11_103_9 (zt_10_3 ht0) dX11_years_23 (z_callVv (pc := 26) hK [.ref (G.2.2.2 (zR (zR t0 3) 4))] (m_X9_become (zC_D hK) (zt_2_1 (zt_10_6 ht0)) (zt_9_4 (zt_10_3 ht0)) qv_3) sv_X9_become q_866 (zt_2_1 (zt_10_6 ht0)) rfl [] rfl (Nat.le_of_ble_eq_true rfl) ⟨by decide, by decide⟩ dX11_years_26 (z_iload_n (pc := 29) hK 0 dX11_years_29 rfl (z_iretE (pc := 30) hK hE hg dX11_years_30))))))))
theorem m_X11_years {l : Launch} {G : zG} (hG : zD G) {h : zH} {t0 : Nat} (ht0 : zT t0 = (10, 0)) {r : Int32 × zH} (hg : g_X11_years h t0 = some r) : zM l G yX11_years cX11_years 2 (some .int) 8 175 [.ref (G.2.2.2 t0)] h (some (.int r.1)) r.2 :=
  zM_of hG pn_X11 (Nat.le_of_ble_eq_true rfl) (fun K _ hK hE => b_X11_years hK ht0 hE hg)
theorem dX11_person_0 : decode cX11_person 0 = .ok (.aload_n 0, 1) := by decide +kernel
theorem dX11_person_1 : decode cX11_person 1 = .ok (.getfield 19, 3) := by decide +kernel
theorem dX11_person_4 : decode cX11_person 4 = .ok (.iload_n 1, 1) := by decide +kernel
theorem dX11_person_5 : decode cX11_person 5 = .ok (.invokevirtual 109, 3) := by decide +kernel
theorem dX11_person_8 : decode cX11_person 8 = .ok (.ifCond .ne 6, 3) := by decide +kernel
theorem dX11_person_11 : decode cX11_person 11 = .ok (.bipush (-2), 2) := by decide +kernel
theorem dX11_person_13 : decode cX11_person 13 = .ok (.ireturn, 1) := by decide +kernel
theorem dX11_person_14 : decode cX11_person 14 = .ok (.iload_n 2, 1) := by decide +kernel
theorem dX11_person_15 : decode cX11_person 15 = .ok (.tableswitch 142 0 7 #[45, 55, 65, 75, 88, 100, 112, 122], 45) := by decide +kernel
theorem dX11_person_60 : decode cX11_person 60 = .ok (.aload_n 0, 1) := by decide +kernel
theorem dX11_person_61 : decode cX11_person 61 = .ok (.getfield 19, 3) := by decide +kernel
theorem dX11_person_64 : decode cX11_person 64 = .ok (.getfield 113, 3) := by decide +kernel
theorem dX11_person_67 : decode cX11_person 67 = .ok (.iload_n 1, 1) := by decide +kernel
theorem dX11_person_68 : decode cX11_person 68 = .ok (.iaload, 1) := by decide +kernel
theorem dX11_person_69 : decode cX11_person 69 = .ok (.ireturn, 1) := by decide +kernel
theorem dX11_person_70 : decode cX11_person 70 = .ok (.aload_n 0, 1) := by decide +kernel
theorem dX11_person_71 : decode cX11_person 71 = .ok (.getfield 19, 3) := by decide +kernel
theorem dX11_person_74 : decode cX11_person 74 = .ok (.getfield 117, 3) := by decide +kernel
theorem dX11_person_77 : decode cX11_person 77 = .ok (.iload_n 1, 1) := by decide +kernel
theorem dX11_person_78 : decode cX11_person 78 = .ok (.iaload, 1) := by decide +kernel
theorem dX11_person_79 : decode cX11_person 79 = .ok (.ireturn, 1) := by decide +kernel
theorem dX11_person_80 : decode cX11_person 80 = .ok (.aload_n 0, 1) := by decide +kernel
theorem dX11_person_81 : decode cX11_person 81 = .ok (.getfield 19, 3) := by decide +kernel
theorem dX11_person_84 : decode cX11_person 84 = .ok (.getfield 120, 3) := by decide +kernel
theorem dX11_person_87 : decode cX11_person 87 = .ok (.iload_n 1, 1) := by decide +kernel
theorem dX11_person_88 : decode cX11_person 88 = .ok (.iaload, 1) := by decide +kernel
theorem dX11_person_89 : decode cX11_person 89 = .ok (.ireturn, 1) := by decide +kernel
theorem dX11_person_90 : decode cX11_person 90 = .ok (.aload_n 0, 1) := by decide +kernel
theorem dX11_person_91 : decode cX11_person 91 = .ok (.getfield 54, 3) := by decide +kernel
theorem dX11_person_94 : decode cX11_person 94 = .ok (.getfield 123, 3) := by decide +kernel
theorem dX11_person_97 : decode cX11_person 97 = .ok (.getfield 126, 3) := by decide +kernel
theorem dX11_person_100 : decode cX11_person 100 = .ok (.iload_n 1, 1) := by decide +kernel
theorem dX11_person_101 : decode cX11_person 101 = .ok (.iaload, 1) := by decide +kernel
theorem dX11_person_102 : decode cX11_person 102 = .ok (.ireturn, 1) := by decide +kernel
theorem dX11_person_103 : decode cX11_person 103 = .ok (.aload_n 0, 1) := by decide +kernel
theorem dX11_person_104 : decode cX11_person 104 = .ok (.getfield 54, 3) := by decide +kernel
theorem dX11_person_107 : decode cX11_person 107 = .ok (.getfield 123, 3) := by decide +kernel
theorem dX11_person_110 : decode cX11_person 110 = .ok (.iload_n 1, 1) := by decide +kernel
theorem dX11_person_111 : decode cX11_person 111 = .ok (.invokevirtual 129, 3) := by decide +kernel
theorem dX11_person_114 : decode cX11_person 114 = .ok (.ireturn, 1) := by decide +kernel
theorem dX11_person_115 : decode cX11_person 115 = .ok (.aload_n 0, 1) := by decide +kernel
theorem dX11_person_116 : decode cX11_person 116 = .ok (.getfield 54, 3) := by decide +kernel
theorem dX11_person_119 : decode cX11_person 119 = .ok (.getfield 123, 3) := by decide +kernel
theorem dX11_person_122 : decode cX11_person 122 = .ok (.iload_n 1, 1) := by decide +kernel
theorem dX11_person_123 : decode cX11_person 123 = .ok (.invokevirtual 133, 3) := by decide +kernel
theorem dX11_person_126 : decode cX11_person 126 = .ok (.ireturn, 1) := by decide +kernel
theorem dX11_person_127 : decode cX11_person 127 = .ok (.aload_n 0, 1) := by decide +kernel
theorem dX11_person_128 : decode cX11_person 128 = .ok (.getfield 19, 3) := by decide +kernel
theorem dX11_person_131 : decode cX11_person 131 = .ok (.getfield 136, 3) := by decide +kernel
theorem dX11_person_134 : decode cX11_person 134 = .ok (.iload_n 1, 1) := by decide +kernel
theorem dX11_person_135 : decode cX11_person 135 = .ok (.iaload, 1) := by decide +kernel
theorem dX11_person_136 : decode cX11_person 136 = .ok (.ireturn, 1) := by decide +kernel
theorem dX11_person_137 : decode cX11_person 137 = .ok (.aload_n 0, 1) := by decide +kernel
theorem dX11_person_138 : decode cX11_person 138 = .ok (.getfield 54, 3) := by decide +kernel
theorem dX11_person_141 : decode cX11_person 141 = .ok (.getfield 123, 3) := by decide +kernel
theorem dX11_person_144 : decode cX11_person 144 = .ok (.iload_n 1, 1) := by decide +kernel
theorem dX11_person_145 : decode cX11_person 145 = .ok (.invokevirtual 139, 3) := by decide +kernel
theorem dX11_person_148 : decode cX11_person 148 = .ok (.ifCond .eq 7, 3) := by decide +kernel
theorem dX11_person_151 : decode cX11_person 151 = .ok (.iconst 1, 1) := by decide +kernel
theorem dX11_person_152 : decode cX11_person 152 = .ok (.goto 4, 3) := by decide +kernel
theorem dX11_person_155 : decode cX11_person 155 = .ok (.iconst 0, 1) := by decide +kernel
theorem dX11_person_156 : decode cX11_person 156 = .ok (.ireturn, 1) := by decide +kernel
theorem dX11_person_157 : decode cX11_person 157 = .ok (.bipush (-2), 2) := by decide +kernel
theorem dX11_person_159 : decode cX11_person 159 = .ok (.ireturn, 1) := by decide +kernel
def g_X11_person (h : zH) (t0 : Nat) (x1 : Int32) (x2 : Int32) : Option Int32 := (g_X5_has h (zR t0 1) x1).bind fun v_1 => if (zb v_1) = 0 then (some (-2)) else (zlet (x2) fun v_3 => if v_3 = 0 then (zgu (zin x1 7) <| some (h.1 (zR (zR t0 1) 1) (zx x1))) else if v_3 = 1 then (zgu (zin x1 7) <| some (h.1 (zR (zR t0 1) 2) (zx x1))) else if v_3 = 2 then (zgu (zin x1 7) <| some (h.1 (zR (zR t0 1) 3) (zx x1))) else if v_3 = 3 then (zgu (zin x1 7) <| some (h.1 (zR (zR (zR t0 6) 0) 3) (zx x1))) else if v_3 = 4 then ((g_X7_countAgainst h (zR (zR t0 6) 0) x1).bind fun v_13 => some v_13) else if v_3 = 5 then ((g_X7_castBy h (zR (zR t0 6) 0) x1).bind fun v_15 => some v_15) else if v_3 = 6 then (zgu (zin x1 7) <| some (h.1 (zR (zR t0 1) 4) (zx x1))) else if v_3 = 7 then ((g_X7_isAlive h (zR (zR t0 6) 0) x1).bind fun v_19 => if (zb v_19) = 0 then (some 0) else (some 1)) else some (-2))
set_option maxRecDepth 100000 in
set_option maxHeartbeats 4000000 in
theorem b_X11_person {K : zK} {G : zG} (hK : zC K G cX11_person RX11 3 2 44 (some .int)) {h : zH} {t0 : Nat} {x1 : Int32} {x2 : Int32} (ht0 : zT t0 = (10, 0)) {r : Int32} (hE : zE K G (some (.int r)) h) (hg : g_X11_person h t0 x1 x2 = some r) : zW K G 3 0 [(0, .ref (G.2.2.2 t0)), (1, .int x1), (2, .int x2)] [] h := by
  rw [g_X11_person] at hg
  obtain ⟨v_1, qv_1, hg⟩ := zbind_some hg
  refine z_aload_n (pc := 0) hK 0 dX11_person_0 rfl (z_getR (pc := 1) hK f_X11_19_10 ht0 dX11_person_1 (z_iload_n (pc := 4) hK 1 dX11_person_4 rfl (z_callVi (pc := 5) hK [.int x1] (m_X5_has (zC_D hK) (zt_10_1 ht0) qv_1) sv_X5_has q_875 (zt_10_1 ht0) rfl [] rfl (Nat.le_of_ble_eq_true rfl) ⟨by decide, by decide⟩ dX11_person_5 (z_if_ne (pc := 8) hK 14 dX11_person_8 (by decide) (fun c_2 => ?_) (fun c_2 => ?_)))))
  · rw [if_neg c_2] at hg
    obtain ⟨v_3, ev_3, hg⟩ := zlet_some hg
    refine z_iload_n (pc := 14) hK 2 dX11_person_14 rfl (z_nameI ev_3 ?_)
    by_cases c_4 : v_3 = 0
    · rw [if_pos c_4] at hg
      refine z_tableIn (pc := 15) hK 60 dX11_person_15 (by rw [c_4]; decide) (by rw [c_4]; decide) (by rw [c_4] <;> rfl) (by decide) ?_
      obtain ⟨c_5, hg⟩ := zgu_some hg
      exact z_aload_n (pc := 60) hK 0 dX11_person_60 rfl (z_getR (pc := 61) hK f_X11_19_10 ht0 dX11_person_61 (z_getR (pc := 64) hK f_X11_113_4 (zt_10_1 ht0) dX11_person_64 (z_iload_n (pc := 67) hK 1 dX11_person_67 rfl (z_iald (pc := 68) hK (zt_4_1 (zt_10_1 ht0)) c_5 dX11_person_68 (z_iretP (pc := 69) hK hE hg dX11_person_69)))))
    rw [if_neg c_4] at hg
    by_cases c_6 : v_3 = 1
    · rw [if_pos c_6] at hg
      refine z_tableIn (pc := 15) hK 70 dX11_person_15 (by rw [c_6]; decide) (by rw [c_6]; decide) (by rw [c_6] <;> rfl) (by decide) ?_
      obtain ⟨c_7, hg⟩ := zgu_some hg
      exact z_aload_n (pc := 70) hK 0 dX11_person_70 rfl (z_getR (pc := 71) hK f_X11_19_10 ht0 dX11_person_71 (z_getR (pc := 74) hK f_X11_117_4 (zt_10_1 ht0) dX11_person_74 (z_iload_n (pc := 77) hK 1 dX11_person_77 rfl (z_iald (pc := 78) hK (zt_4_2 (zt_10_1 ht0)) c_7 dX11_person_78 (z_iretP (pc := 79) hK hE hg dX11_person_79)))))
    rw [if_neg c_6] at hg
    by_cases c_8 : v_3 = 2
    · rw [if_pos c_8] at hg
      refine z_tableIn (pc := 15) hK 80 dX11_person_15 (by rw [c_8]; decide) (by rw [c_8]; decide) (by rw [c_8] <;> rfl) (by decide) ?_
      obtain ⟨c_9, hg⟩ := zgu_some hg
      exact z_aload_n (pc := 80) hK 0 dX11_person_80 rfl (z_getR (pc := 81) hK f_X11_19_10 ht0 dX11_person_81 (z_getR (pc := 84) hK f_X11_120_4 (zt_10_1 ht0) dX11_person_84 (z_iload_n (pc := 87) hK 1 dX11_person_87 rfl (z_iald (pc := 88) hK (zt_4_3 (zt_10_1 ht0)) c_9 dX11_person_88 (z_iretP (pc := 89) hK hE hg dX11_person_89)))))
    rw [if_neg c_8] at hg
    by_cases c_10 : v_3 = 3
    · rw [if_pos c_10] at hg
      refine z_tableIn (pc := 15) hK 90 dX11_person_15 (by rw [c_10]; decide) (by rw [c_10]; decide) (by rw [c_10] <;> rfl) (by decide) ?_
      obtain ⟨c_11, hg⟩ := zgu_some hg
      exact z_aload_n (pc := 90) hK 0 dX11_person_90 rfl (z_getR (pc := 91) hK f_X11_54_10 ht0 dX11_person_91 (z_getR (pc := 94) hK f_X11_123_2 (zt_10_6 ht0) dX11_person_94 (z_getR (pc := 97) hK f_X11_126_6 (zt_2_0 (zt_10_6 ht0)) dX11_person_97 (z_iload_n (pc := 100) hK 1 dX11_person_100 rfl (z_iald (pc := 101) hK (zt_6_3 (zt_2_0 (zt_10_6 ht0))) c_11 dX11_person_101 (z_iretP (pc := 102) hK hE hg dX11_person_102))))))
    rw [if_neg c_10] at hg
    by_cases c_12 : v_3 = 4
    · rw [if_pos c_12] at hg
      refine z_tableIn (pc := 15) hK 103 dX11_person_15 (by rw [c_12]; decide) (by rw [c_12]; decide) (by rw [c_12] <;> rfl) (by decide) ?_
      obtain ⟨v_13, qv_13, hg⟩ := zbind_some hg
      exact z_aload_n (pc := 103) hK 0 dX11_person_103 rfl (z_getR (pc := 104) hK f_X11_54_10 ht0 dX11_person_104 (z_getR (pc := 107) hK f_X11_123_2 (zt_10_6 ht0) dX11_person_107 (z_iload_n (pc := 110) hK 1 dX11_person_110 rfl (z_callVi (pc := 111) hK [.int x1] (m_X7_countAgainst (zC_D hK) (zt_2_0 (zt_10_6 ht0)) qv_13) sv_X7_countAgainst q_879 (zt_2_0 (zt_10_6 ht0)) rfl [] rfl (Nat.le_of_ble_eq_true rfl) ⟨by decide, by decide⟩ dX11_person_111 (z_iretP (pc := 114) hK hE hg dX11_person_114)))))
    rw [if_neg c_12] at hg
    by_cases c_14 : v_3 = 5
    · rw [if_pos c_14] at hg
      refine z_tableIn (pc := 15) hK 115 dX11_person_15 (by rw [c_14]; decide) (by rw [c_14]; decide) (by rw [c_14] <;> rfl) (by decide) ?_
      obtain ⟨v_15, qv_15, hg⟩ := zbind_some hg
      exact z_aload_n (pc := 115) hK 0 dX11_person_115 rfl (z_getR (pc := 116) hK f_X11_54_10 ht0 dX11_person_116 (z_getR (pc := 119) hK f_X11_123_2 (zt_10_6 ht0) dX11_person_119 (z_iload_n (pc := 122) hK 1 dX11_person_122 rfl (z_callVi (pc := 123) hK [.int x1] (m_X7_castBy (zC_D hK) (zt_2_0 (zt_10_6 ht0)) qv_15) sv_X7_castBy q_887 (zt_2_0 (zt_10_6 ht0)) rfl [] rfl (Nat.le_of_ble_eq_true rfl) ⟨by decide, by decide⟩ dX11_person_123 (z_iretP (pc := 126) hK hE hg dX11_person_126)))))
    rw [if_neg c_14] at hg
    by_cases c_16 : v_3 = 6
    · rw [if_pos c_16] at hg
      refine z_tableIn (pc := 15) hK 127 dX11_person_15 (by rw [c_16]; decide) (by rw [c_16]; decide) (by rw [c_16] <;> rfl) (by decide) ?_
      obtain ⟨c_17, hg⟩ := zgu_some hg
      exact z_aload_n (pc := 127) hK 0 dX11_person_127 rfl (z_getR (pc := 128) hK f_X11_19_10 ht0 dX11_person_128 (z_getR (pc := 131) hK f_X11_136_4 (zt_10_1 ht0) dX11_person_131 (z_iload_n (pc := 134) hK 1 dX11_person_134 rfl (z_iald (pc := 135) hK (zt_4_4 (zt_10_1 ht0)) c_17 dX11_person_135 (z_iretP (pc := 136) hK hE hg dX11_person_136)))))
    rw [if_neg c_16] at hg
    by_cases c_18 : v_3 = 7
    · rw [if_pos c_18] at hg
      refine z_tableIn (pc := 15) hK 137 dX11_person_15 (by rw [c_18]; decide) (by rw [c_18]; decide) (by rw [c_18] <;> rfl) (by decide) ?_
      obtain ⟨v_19, qv_19, hg⟩ := zbind_some hg
      refine z_aload_n (pc := 137) hK 0 dX11_person_137 rfl (z_getR (pc := 138) hK f_X11_54_10 ht0 dX11_person_138 (z_getR (pc := 141) hK f_X11_123_2 (zt_10_6 ht0) dX11_person_141 (z_iload_n (pc := 144) hK 1 dX11_person_144 rfl (z_callVi (pc := 145) hK [.int x1] (m_X7_isAlive (zC_D hK) (zt_2_0 (zt_10_6 ht0)) qv_19) sv_X7_isAlive q_891 (zt_2_0 (zt_10_6 ht0)) rfl [] rfl (Nat.le_of_ble_eq_true rfl) ⟨by decide, by decide⟩ dX11_person_145 (z_if_eq (pc := 148) hK 155 dX11_person_148 (by decide) (fun c_20 => ?_) (fun c_20 => ?_))))))
      · rw [if_pos c_20] at hg
        exact z_iconst (pc := 155) hK dX11_person_155 zc_i0 (z_iretP (pc := 156) hK hE hg dX11_person_156)
      · rw [if_neg c_20] at hg
        exact z_iconst (pc := 151) hK dX11_person_151 zc_i1 (z_goto (pc := 152) hK 156 dX11_person_152 (by decide) (z_iretP (pc := 156) hK hE hg dX11_person_156))
    rw [if_neg c_18] at hg
    refine z_tableOut (pc := 15) hK 157 dX11_person_15 (by have zc_4 := zne_k (n := 0) c_4 (by decide); have zc_6 := zne_k (n := 1) c_6 (by decide); have zc_8 := zne_k (n := 2) c_8 (by decide); have zc_10 := zne_k (n := 3) c_10 (by decide); have zc_12 := zne_k (n := 4) c_12 (by decide); have zc_14 := zne_k (n := 5) c_14 (by decide); have zc_16 := zne_k (n := 6) c_16 (by decide); have zc_18 := zne_k (n := 7) c_18 (by decide); omega) (by decide) ?_
    exact z_bipush (pc := 157) hK dX11_person_157 zc_bm2 (z_iretP (pc := 159) hK hE hg dX11_person_159)
  · rw [if_pos c_2] at hg
    exact z_bipush (pc := 11) hK dX11_person_11 zc_bm2 (z_iretP (pc := 13) hK hE hg dX11_person_13)
theorem m_X11_person {l : Launch} {G : zG} (hG : zD G) {h : zH} {t0 : Nat} {x1 : Int32} {x2 : Int32} (ht0 : zT t0 = (10, 0)) {r : Int32} (hg : g_X11_person h t0 x1 x2 = some r) : zM l G yX11_person cX11_person 3 (some .int) 2 44 [.ref (G.2.2.2 t0), .int x1, .int x2] h (some (.int r)) h :=
  zM_of hG pn_X11 (Nat.le_of_ble_eq_true rfl) (fun K _ hK hE => b_X11_person hK ht0 hE hg)
theorem dX11_grudge_0 : decode cX11_grudge 0 = .ok (.aload_n 0, 1) := by decide +kernel
theorem dX11_grudge_1 : decode cX11_grudge 1 = .ok (.getfield 19, 3) := by decide +kernel
theorem dX11_grudge_4 : decode cX11_grudge 4 = .ok (.iload_n 1, 1) := by decide +kernel
theorem dX11_grudge_5 : decode cX11_grudge 5 = .ok (.iload_n 2, 1) := by decide +kernel
theorem dX11_grudge_6 : decode cX11_grudge 6 = .ok (.invokevirtual 142, 3) := by decide +kernel
theorem dX11_grudge_9 : decode cX11_grudge 9 = .ok (.ifCond .ne 5, 3) := by decide +kernel
theorem dX11_grudge_12 : decode cX11_grudge 12 = .ok (.iconst (-1), 1) := by decide +kernel
theorem dX11_grudge_13 : decode cX11_grudge 13 = .ok (.ireturn, 1) := by decide +kernel
theorem dX11_grudge_14 : decode cX11_grudge 14 = .ok (.aload_n 0, 1) := by decide +kernel
theorem dX11_grudge_15 : decode cX11_grudge 15 = .ok (.getfield 54, 3) := by decide +kernel
theorem dX11_grudge_18 : decode cX11_grudge 18 = .ok (.getfield 123, 3) := by decide +kernel
theorem dX11_grudge_21 : decode cX11_grudge 21 = .ok (.getfield 146, 3) := by decide +kernel
theorem dX11_grudge_24 : decode cX11_grudge 24 = .ok (.iload_n 1, 1) := by decide +kernel
theorem dX11_grudge_25 : decode cX11_grudge 25 = .ok (.bipush 7, 2) := by decide +kernel
theorem dX11_grudge_27 : decode cX11_grudge 27 = .ok (.imul, 1) := by decide +kernel
theorem dX11_grudge_28 : decode cX11_grudge 28 = .ok (.iload_n 2, 1) := by decide +kernel
theorem dX11_grudge_29 : decode cX11_grudge 29 = .ok (.iadd, 1) := by decide +kernel
theorem dX11_grudge_30 : decode cX11_grudge 30 = .ok (.iaload, 1) := by decide +kernel
theorem dX11_grudge_31 : decode cX11_grudge 31 = .ok (.ireturn, 1) := by decide +kernel
def g_X11_grudge (h : zH) (t0 : Nat) (x1 : Int32) (x2 : Int32) : Option Int32 := (g_X5_hasPair h (zR t0 1) x1 x2).bind fun v_1 => if (zb v_1) = 0 then (some (-1)) else (zgu (zin ((x1 * 7) + x2) 49) <| some (h.1 (zR (zR (zR t0 6) 0) 1) (zx ((x1 * 7) + x2))))
set_option maxRecDepth 100000 in
set_option maxHeartbeats 4000000 in
theorem b_X11_grudge {K : zK} {G : zG} (hK : zC K G cX11_grudge RX11 3 2 43 (some .int)) {h : zH} {t0 : Nat} {x1 : Int32} {x2 : Int32} (ht0 : zT t0 = (10, 0)) {r : Int32} (hE : zE K G (some (.int r)) h) (hg : g_X11_grudge h t0 x1 x2 = some r) : zW K G 3 0 [(0, .ref (G.2.2.2 t0)), (1, .int x1), (2, .int x2)] [] h := by
  rw [g_X11_grudge] at hg
  obtain ⟨v_1, qv_1, hg⟩ := zbind_some hg
  refine z_aload_n (pc := 0) hK 0 dX11_grudge_0 rfl (z_getR (pc := 1) hK f_X11_19_10 ht0 dX11_grudge_1 (z_iload_n (pc := 4) hK 1 dX11_grudge_4 rfl (z_iload_n (pc := 5) hK 2 dX11_grudge_5 rfl (z_callVi (pc := 6) hK [.int x1, .int x2] (m_X5_hasPair (zC_D hK) (zt_10_1 ht0) qv_1) sv_X5_hasPair q_896 (zt_10_1 ht0) rfl [] rfl (Nat.le_of_ble_eq_true rfl) ⟨by decide, by decide⟩ dX11_grudge_6 (z_if_ne (pc := 9) hK 14 dX11_grudge_9 (by decide) (fun c_2 => ?_) (fun c_2 => ?_))))))
  · rw [if_neg c_2] at hg
    obtain ⟨c_3, hg⟩ := zgu_some hg
    exact z_aload_n (pc := 14) hK 0 dX11_grudge_14 rfl (z_getR (pc := 15) hK f_X11_54_10 ht0 dX11_grudge_15 (z_getR (pc := 18) hK f_X11_123_2 (zt_10_6 ht0) dX11_grudge_18 (z_getR (pc := 21) hK f_X11_146_6 (zt_2_0 (zt_10_6 ht0)) dX11_grudge_21 (z_iload_n (pc := 24) hK 1 dX11_grudge_24 rfl (z_bipush (pc := 25) hK dX11_grudge_25 zc_b7 (z_imul (pc := 27) hK dX11_grudge_27 (z_iload_n (pc := 28) hK 2 dX11_grudge_28 rfl (z_iadd (pc := 29) hK dX11_grudge_29 (z_iald (pc := 30) hK (zt_6_1 (zt_2_0 (zt_10_6 ht0))) c_3 dX11_grudge_30 (z_iretP (pc := 31) hK hE hg dX11_grudge_31))))))))))
  · rw [if_pos c_2] at hg
    exact z_iconst (pc := 12) hK dX11_grudge_12 zc_im1 (z_iretP (pc := 13) hK hE hg dX11_grudge_13)
theorem m_X11_grudge {l : Launch} {G : zG} (hG : zD G) {h : zH} {t0 : Nat} {x1 : Int32} {x2 : Int32} (ht0 : zT t0 = (10, 0)) {r : Int32} (hg : g_X11_grudge h t0 x1 x2 = some r) : zM l G yX11_grudge cX11_grudge 3 (some .int) 2 43 [.ref (G.2.2.2 t0), .int x1, .int x2] h (some (.int r)) h :=
  zM_of hG pn_X11 (Nat.le_of_ble_eq_true rfl) (fun K _ hK hE => b_X11_grudge hK ht0 hE hg)
theorem dX11_against_0 : decode cX11_against 0 = .ok (.aload_n 0, 1) := by decide +kernel
theorem dX11_against_1 : decode cX11_against 1 = .ok (.getfield 19, 3) := by decide +kernel
theorem dX11_against_4 : decode cX11_against 4 = .ok (.iload_n 1, 1) := by decide +kernel
theorem dX11_against_5 : decode cX11_against 5 = .ok (.iload_n 2, 1) := by decide +kernel
theorem dX11_against_6 : decode cX11_against 6 = .ok (.invokevirtual 142, 3) := by decide +kernel
theorem dX11_against_9 : decode cX11_against 9 = .ok (.ifCond .ne 5, 3) := by decide +kernel
theorem dX11_against_12 : decode cX11_against 12 = .ok (.iconst (-1), 1) := by decide +kernel
theorem dX11_against_13 : decode cX11_against 13 = .ok (.ireturn, 1) := by decide +kernel
theorem dX11_against_14 : decode cX11_against 14 = .ok (.aload_n 0, 1) := by decide +kernel
theorem dX11_against_15 : decode cX11_against 15 = .ok (.getfield 54, 3) := by decide +kernel
theorem dX11_against_18 : decode cX11_against 18 = .ok (.getfield 123, 3) := by decide +kernel
theorem dX11_against_21 : decode cX11_against 21 = .ok (.getfield 149, 3) := by decide +kernel
theorem dX11_against_24 : decode cX11_against 24 = .ok (.iload_n 1, 1) := by decide +kernel
theorem dX11_against_25 : decode cX11_against 25 = .ok (.bipush 7, 2) := by decide +kernel
theorem dX11_against_27 : decode cX11_against 27 = .ok (.imul, 1) := by decide +kernel
theorem dX11_against_28 : decode cX11_against 28 = .ok (.iload_n 2, 1) := by decide +kernel
theorem dX11_against_29 : decode cX11_against 29 = .ok (.iadd, 1) := by decide +kernel
theorem dX11_against_30 : decode cX11_against 30 = .ok (.iaload, 1) := by decide +kernel
theorem dX11_against_31 : decode cX11_against 31 = .ok (.ireturn, 1) := by decide +kernel
def g_X11_against (h : zH) (t0 : Nat) (x1 : Int32) (x2 : Int32) : Option Int32 := (g_X5_hasPair h (zR t0 1) x1 x2).bind fun v_1 => if (zb v_1) = 0 then (some (-1)) else (zgu (zin ((x1 * 7) + x2) 49) <| some (h.1 (zR (zR (zR t0 6) 0) 2) (zx ((x1 * 7) + x2))))
set_option maxRecDepth 100000 in
set_option maxHeartbeats 4000000 in
theorem b_X11_against {K : zK} {G : zG} (hK : zC K G cX11_against RX11 3 2 43 (some .int)) {h : zH} {t0 : Nat} {x1 : Int32} {x2 : Int32} (ht0 : zT t0 = (10, 0)) {r : Int32} (hE : zE K G (some (.int r)) h) (hg : g_X11_against h t0 x1 x2 = some r) : zW K G 3 0 [(0, .ref (G.2.2.2 t0)), (1, .int x1), (2, .int x2)] [] h := by
  rw [g_X11_against] at hg
  obtain ⟨v_1, qv_1, hg⟩ := zbind_some hg
  refine z_aload_n (pc := 0) hK 0 dX11_against_0 rfl (z_getR (pc := 1) hK f_X11_19_10 ht0 dX11_against_1 (z_iload_n (pc := 4) hK 1 dX11_against_4 rfl (z_iload_n (pc := 5) hK 2 dX11_against_5 rfl (z_callVi (pc := 6) hK [.int x1, .int x2] (m_X5_hasPair (zC_D hK) (zt_10_1 ht0) qv_1) sv_X5_hasPair q_896 (zt_10_1 ht0) rfl [] rfl (Nat.le_of_ble_eq_true rfl) ⟨by decide, by decide⟩ dX11_against_6 (z_if_ne (pc := 9) hK 14 dX11_against_9 (by decide) (fun c_2 => ?_) (fun c_2 => ?_))))))
  · rw [if_neg c_2] at hg
    obtain ⟨c_3, hg⟩ := zgu_some hg
    exact z_aload_n (pc := 14) hK 0 dX11_against_14 rfl (z_getR (pc := 15) hK f_X11_54_10 ht0 dX11_against_15 (z_getR (pc := 18) hK f_X11_123_2 (zt_10_6 ht0) dX11_against_18 (z_getR (pc := 21) hK f_X11_149_6 (zt_2_0 (zt_10_6 ht0)) dX11_against_21 (z_iload_n (pc := 24) hK 1 dX11_against_24 rfl (z_bipush (pc := 25) hK dX11_against_25 zc_b7 (z_imul (pc := 27) hK dX11_against_27 (z_iload_n (pc := 28) hK 2 dX11_against_28 rfl (z_iadd (pc := 29) hK dX11_against_29 (z_iald (pc := 30) hK (zt_6_2 (zt_2_0 (zt_10_6 ht0))) c_3 dX11_against_30 (z_iretP (pc := 31) hK hE hg dX11_against_31))))))))))
  · rw [if_pos c_2] at hg
    exact z_iconst (pc := 12) hK dX11_against_12 zc_im1 (z_iretP (pc := 13) hK hE hg dX11_against_13)
theorem m_X11_against {l : Launch} {G : zG} (hG : zD G) {h : zH} {t0 : Nat} {x1 : Int32} {x2 : Int32} (ht0 : zT t0 = (10, 0)) {r : Int32} (hg : g_X11_against h t0 x1 x2 = some r) : zM l G yX11_against cX11_against 3 (some .int) 2 43 [.ref (G.2.2.2 t0), .int x1, .int x2] h (some (.int r)) h :=
  zM_of hG pn_X11 (Nat.le_of_ble_eq_true rfl) (fun K _ hK hE => b_X11_against hK ht0 hE hg)
theorem dX11_governs_0 : decode cX11_governs 0 = .ok (.aload_n 0, 1) := by decide +kernel
theorem dX11_governs_1 : decode cX11_governs 1 = .ok (.getfield 54, 3) := by decide +kernel
theorem dX11_governs_4 : decode cX11_governs 4 = .ok (.getfield 123, 3) := by decide +kernel
theorem dX11_governs_7 : decode cX11_governs 7 = .ok (.invokevirtual 152, 3) := by decide +kernel
theorem dX11_governs_10 : decode cX11_governs 10 = .ok (.ireturn, 1) := by decide +kernel
def g_X11_governs (h : zH) (t0 : Nat) : Option Int32 := (g_X7_governor h (zR (zR t0 6) 0)).bind fun v_1 => some v_1
set_option maxRecDepth 100000 in
set_option maxHeartbeats 4000000 in
theorem b_X11_governs {K : zK} {G : zG} (hK : zC K G cX11_governs RX11 1 4 89 (some .int)) {h : zH} {t0 : Nat} (ht0 : zT t0 = (10, 0)) {r : Int32} (hE : zE K G (some (.int r)) h) (hg : g_X11_governs h t0 = some r) : zW K G 1 0 [(0, .ref (G.2.2.2 t0))] [] h := by
  rw [g_X11_governs] at hg
  obtain ⟨v_1, qv_1, hg⟩ := zbind_some hg
  exact z_aload_n (pc := 0) hK 0 dX11_governs_0 rfl (z_getR (pc := 1) hK f_X11_54_10 ht0 dX11_governs_1 (z_getR (pc := 4) hK f_X11_123_2 (zt_10_6 ht0) dX11_governs_4 (z_callVi (pc := 7) hK [] (m_X7_governor (zC_D hK) (zt_2_0 (zt_10_6 ht0)) qv_1) sv_X7_governor q_909 (zt_2_0 (zt_10_6 ht0)) rfl [] rfl (Nat.le_of_ble_eq_true rfl) ⟨by decide, by decide⟩ dX11_governs_7 (z_iretP (pc := 10) hK hE hg dX11_governs_10))))
theorem m_X11_governs {l : Launch} {G : zG} (hG : zD G) {h : zH} {t0 : Nat} (ht0 : zT t0 = (10, 0)) {r : Int32} (hg : g_X11_governs h t0 = some r) : zM l G yX11_governs cX11_governs 1 (some .int) 4 89 [.ref (G.2.2.2 t0)] h (some (.int r)) h :=
  zM_of hG pn_X11 (Nat.le_of_ble_eq_true rfl) (fun K _ hK hE => b_X11_governs hK ht0 hE hg)
theorem dX11_tax_0 : decode cX11_tax 0 = .ok (.aload_n 0, 1) := by decide +kernel
theorem dX11_tax_1 : decode cX11_tax 1 = .ok (.getfield 54, 3) := by decide +kernel
theorem dX11_tax_4 : decode cX11_tax 4 = .ok (.getfield 123, 3) := by decide +kernel
theorem dX11_tax_7 : decode cX11_tax 7 = .ok (.invokevirtual 155, 3) := by decide +kernel
theorem dX11_tax_10 : decode cX11_tax 10 = .ok (.ifCond .ne 5, 3) := by decide +kernel
theorem dX11_tax_13 : decode cX11_tax 13 = .ok (.iconst (-1), 1) := by decide +kernel
theorem dX11_tax_14 : decode cX11_tax 14 = .ok (.ireturn, 1) := by decide +kernel
theorem dX11_tax_15 : decode cX11_tax 15 = .ok (.aload_n 0, 1) := by decide +kernel
theorem dX11_tax_16 : decode cX11_tax 16 = .ok (.getfield 65, 3) := by decide +kernel
theorem dX11_tax_19 : decode cX11_tax 19 = .ok (.aload_n 0, 1) := by decide +kernel
theorem dX11_tax_20 : decode cX11_tax 20 = .ok (.getfield 54, 3) := by decide +kernel
theorem dX11_tax_23 : decode cX11_tax 23 = .ok (.getfield 123, 3) := by decide +kernel
theorem dX11_tax_26 : decode cX11_tax 26 = .ok (.invokevirtual 159, 3) := by decide +kernel
theorem dX11_tax_29 : decode cX11_tax 29 = .ok (.aload_n 0, 1) := by decide +kernel
theorem dX11_tax_30 : decode cX11_tax 30 = .ok (.getfield 54, 3) := by decide +kernel
theorem dX11_tax_33 : decode cX11_tax 33 = .ok (.getfield 123, 3) := by decide +kernel
theorem dX11_tax_36 : decode cX11_tax 36 = .ok (.invokevirtual 163, 3) := by decide +kernel
theorem dX11_tax_39 : decode cX11_tax 39 = .ok (.ireturn, 1) := by decide +kernel
def g_X11_tax (h : zH) (t0 : Nat) : Option (Int32 × zH) := (g_X7_canLevy h (zR (zR t0 6) 0)).bind fun v_1 => if (zb v_1) = 0 then (some ((-1), h)) else ((g_X3_keep h (zR t0 8) (zR (zR t0 6) 0)).bind fun v_3 => (g_X7_levy v_3 (zR (zR t0 6) 0)).bind fun v_4 => some (v_4.1, v_4.2))
set_option maxRecDepth 100000 in
set_option maxHeartbeats 4000000 in
theorem b_X11_tax {K : zK} {G : zG} (hK : zC K G cX11_tax RX11 1 5 114 (some .int)) {h : zH} {t0 : Nat} (ht0 : zT t0 = (10, 0)) {r : Int32 × zH} (hE : zE K G (some (.int r.1)) r.2) (hg : g_X11_tax h t0 = some r) : zW K G 1 0 [(0, .ref (G.2.2.2 t0))] [] h := by
  rw [g_X11_tax] at hg
  obtain ⟨v_1, qv_1, hg⟩ := zbind_some hg
  refine z_aload_n (pc := 0) hK 0 dX11_tax_0 rfl (z_getR (pc := 1) hK f_X11_54_10 ht0 dX11_tax_1 (z_getR (pc := 4) hK f_X11_123_2 (zt_10_6 ht0) dX11_tax_4 (z_callVi (pc := 7) hK [] (m_X7_canLevy (zC_D hK) (zt_2_0 (zt_10_6 ht0)) qv_1) sv_X7_canLevy q_926 (zt_2_0 (zt_10_6 ht0)) rfl [] rfl (Nat.le_of_ble_eq_true rfl) ⟨by decide, by decide⟩ dX11_tax_7 (z_if_ne (pc := 10) hK 15 dX11_tax_10 (by decide) (fun c_2 => ?_) (fun c_2 => ?_)))))
  · rw [if_neg c_2] at hg
    obtain ⟨v_3, qv_3, hg⟩ := zbind_some hg
    obtain ⟨v_4, qv_4, hg⟩ := zbind_some hg
    exact z_aload_n (pc := 15) hK 0 dX11_tax_15 rfl (z_getR (pc := 16) hK f_X11_65_10 ht0 dX11_tax_16 (z_aload_n (pc := 19) hK 0 dX11_tax_19 rfl (z_getR (pc := 20) hK f_X11_54_10 ht0 dX11_tax_20 (z_getR (pc := 23) hK f_X11_123_2 (zt_10_6 ht0) dX11_tax_23 (z_callVv (pc := 26) hK [.ref (G.2.2.2 (zR (zR t0 6) 0))] (m_X3_keep (zC_D hK) (zt_10_8 ht0) (zt_2_0 (zt_10_6 ht0)) qv_3) sv_X3_keep q_931 (zt_10_8 ht0) rfl [] rfl (Nat.le_of_ble_eq_true rfl) ⟨by decide, by decide⟩ dX11_tax_26 (z_aload_n (pc := 29) hK 0 dX11_tax_29 rfl (z_getR (pc := 30) hK f_X11_54_10 ht0 dX11_tax_30 (z_getR (pc := 33) hK f_X11_123_2 (zt_10_6 ht0) dX11_tax_33 (z_callVi (pc := 36) hK [] (m_X7_levy (zC_D hK) (zt_2_0 (zt_10_6 ht0)) qv_4) sv_X7_levy q_941 (zt_2_0 (zt_10_6 ht0)) rfl [] rfl (Nat.le_of_ble_eq_true rfl) ⟨by decide, by decide⟩ dX11_tax_36 (z_iretE (pc := 39) hK hE hg dX11_tax_39))))))))))
  · rw [if_pos c_2] at hg
    exact z_iconst (pc := 13) hK dX11_tax_13 zc_im1 (z_iretE (pc := 14) hK hE hg dX11_tax_14)
theorem m_X11_tax {l : Launch} {G : zG} (hG : zD G) {h : zH} {t0 : Nat} (ht0 : zT t0 = (10, 0)) {r : Int32 × zH} (hg : g_X11_tax h t0 = some r) : zM l G yX11_tax cX11_tax 1 (some .int) 5 114 [.ref (G.2.2.2 t0)] h (some (.int r.1)) r.2 :=
  zM_of hG pn_X11 (Nat.le_of_ble_eq_true rfl) (fun K _ hK hE => b_X11_tax hK ht0 hE hg)
theorem dX11_gift_0 : decode cX11_gift 0 = .ok (.aload_n 0, 1) := by decide +kernel
theorem dX11_gift_1 : decode cX11_gift 1 = .ok (.getfield 54, 3) := by decide +kernel
theorem dX11_gift_4 : decode cX11_gift 4 = .ok (.getfield 123, 3) := by decide +kernel
theorem dX11_gift_7 : decode cX11_gift 7 = .ok (.iload_n 1, 1) := by decide +kernel
theorem dX11_gift_8 : decode cX11_gift 8 = .ok (.iload_n 2, 1) := by decide +kernel
theorem dX11_gift_9 : decode cX11_gift 9 = .ok (.invokevirtual 166, 3) := by decide +kernel
theorem dX11_gift_12 : decode cX11_gift 12 = .ok (.ifCond .ne 5, 3) := by decide +kernel
theorem dX11_gift_15 : decode cX11_gift 15 = .ok (.iconst (-1), 1) := by decide +kernel
theorem dX11_gift_16 : decode cX11_gift 16 = .ok (.ireturn, 1) := by decide +kernel
theorem dX11_gift_17 : decode cX11_gift 17 = .ok (.aload_n 0, 1) := by decide +kernel
theorem dX11_gift_18 : decode cX11_gift 18 = .ok (.getfield 65, 3) := by decide +kernel
theorem dX11_gift_21 : decode cX11_gift 21 = .ok (.aload_n 0, 1) := by decide +kernel
theorem dX11_gift_22 : decode cX11_gift 22 = .ok (.getfield 54, 3) := by decide +kernel
theorem dX11_gift_25 : decode cX11_gift 25 = .ok (.getfield 123, 3) := by decide +kernel
theorem dX11_gift_28 : decode cX11_gift 28 = .ok (.invokevirtual 159, 3) := by decide +kernel
theorem dX11_gift_31 : decode cX11_gift 31 = .ok (.aload_n 0, 1) := by decide +kernel
theorem dX11_gift_32 : decode cX11_gift 32 = .ok (.getfield 54, 3) := by decide +kernel
theorem dX11_gift_35 : decode cX11_gift 35 = .ok (.getfield 123, 3) := by decide +kernel
theorem dX11_gift_38 : decode cX11_gift 38 = .ok (.iload_n 1, 1) := by decide +kernel
theorem dX11_gift_39 : decode cX11_gift 39 = .ok (.iload_n 2, 1) := by decide +kernel
theorem dX11_gift_40 : decode cX11_gift 40 = .ok (.invokevirtual 169, 3) := by decide +kernel
theorem dX11_gift_43 : decode cX11_gift 43 = .ok (.ireturn, 1) := by decide +kernel
def g_X11_gift (h : zH) (t0 : Nat) (x1 : Int32) (x2 : Int32) : Option (Int32 × zH) := (g_X7_areTwoAlive h (zR (zR t0 6) 0) x1 x2).bind fun v_1 => if (zb v_1) = 0 then (some ((-1), h)) else ((g_X3_keep h (zR t0 8) (zR (zR t0 6) 0)).bind fun v_3 => (g_X7_give v_3 (zR (zR t0 6) 0) x1 x2).bind fun v_4 => some (v_4.1, v_4.2))
set_option maxRecDepth 100000 in
set_option maxHeartbeats 4000000 in
theorem b_X11_gift {K : zK} {G : zG} (hK : zC K G cX11_gift RX11 3 4 91 (some .int)) {h : zH} {t0 : Nat} {x1 : Int32} {x2 : Int32} (ht0 : zT t0 = (10, 0)) {r : Int32 × zH} (hE : zE K G (some (.int r.1)) r.2) (hg : g_X11_gift h t0 x1 x2 = some r) : zW K G 3 0 [(0, .ref (G.2.2.2 t0)), (1, .int x1), (2, .int x2)] [] h := by
  rw [g_X11_gift] at hg
  obtain ⟨v_1, qv_1, hg⟩ := zbind_some hg
  refine z_aload_n (pc := 0) hK 0 dX11_gift_0 rfl (z_getR (pc := 1) hK f_X11_54_10 ht0 dX11_gift_1 (z_getR (pc := 4) hK f_X11_123_2 (zt_10_6 ht0) dX11_gift_4 (z_iload_n (pc := 7) hK 1 dX11_gift_7 rfl (z_iload_n (pc := 8) hK 2 dX11_gift_8 rfl (z_callVi (pc := 9) hK [.int x1, .int x2] (m_X7_areTwoAlive (zC_D hK) (zt_2_0 (zt_10_6 ht0)) qv_1) sv_X7_areTwoAlive q_983 (zt_2_0 (zt_10_6 ht0)) rfl [] rfl (Nat.le_of_ble_eq_true rfl) ⟨by decide, by decide⟩ dX11_gift_9 (z_if_ne (pc := 12) hK 17 dX11_gift_12 (by decide) (fun c_2 => ?_) (fun c_2 => ?_)))))))
  · rw [if_neg c_2] at hg
    obtain ⟨v_3, qv_3, hg⟩ := zbind_some hg
    obtain ⟨v_4, qv_4, hg⟩ := zbind_some hg
    exact z_aload_n (pc := 17) hK 0 dX11_gift_17 rfl (z_getR (pc := 18) hK f_X11_65_10 ht0 dX11_gift_18 (z_aload_n (pc := 21) hK 0 dX11_gift_21 rfl (z_getR (pc := 22) hK f_X11_54_10 ht0 dX11_gift_22 (z_getR (pc := 25) hK f_X11_123_2 (zt_10_6 ht0) dX11_gift_25 (z_callVv (pc := 28) hK [.ref (G.2.2.2 (zR (zR t0 6) 0))] (m_X3_keep (zC_D hK) (zt_10_8 ht0) (zt_2_0 (zt_10_6 ht0)) qv_3) sv_X3_keep q_931 (zt_10_8 ht0) rfl [] rfl (Nat.le_of_ble_eq_true rfl) ⟨by decide, by decide⟩ dX11_gift_28 (z_aload_n (pc := 31) hK 0 dX11_gift_31 rfl (z_getR (pc := 32) hK f_X11_54_10 ht0 dX11_gift_32 (z_getR (pc := 35) hK f_X11_123_2 (zt_10_6 ht0) dX11_gift_35 (z_iload_n (pc := 38) hK 1 dX11_gift_38 rfl (z_iload_n (pc := 39) hK 2 dX11_gift_39 rfl (z_callVi (pc := 40) hK [.int x1, .int x2] (m_X7_give (zC_D hK) (zt_2_0 (zt_10_6 ht0)) qv_4) sv_X7_give q_987 (zt_2_0 (zt_10_6 ht0)) rfl [] rfl (Nat.le_of_ble_eq_true rfl) ⟨by decide, by decide⟩ dX11_gift_40 (z_iretE (pc := 43) hK hE hg dX11_gift_43))))))))))))
  · rw [if_pos c_2] at hg
    exact z_iconst (pc := 15) hK dX11_gift_15 zc_im1 (z_iretE (pc := 16) hK hE hg dX11_gift_16)
theorem m_X11_gift {l : Launch} {G : zG} (hG : zD G) {h : zH} {t0 : Nat} {x1 : Int32} {x2 : Int32} (ht0 : zT t0 = (10, 0)) {r : Int32 × zH} (hg : g_X11_gift h t0 x1 x2 = some r) : zM l G yX11_gift cX11_gift 3 (some .int) 4 91 [.ref (G.2.2.2 t0), .int x1, .int x2] h (some (.int r.1)) r.2 :=
  zM_of hG pn_X11 (Nat.le_of_ble_eq_true rfl) (fun K _ hK hE => b_X11_gift hK ht0 hE hg)
theorem dX11_cast_0 : decode cX11_cast 0 = .ok (.aload_n 0, 1) := by decide +kernel
theorem dX11_cast_1 : decode cX11_cast 1 = .ok (.getfield 54, 3) := by decide +kernel
theorem dX11_cast_4 : decode cX11_cast 4 = .ok (.getfield 123, 3) := by decide +kernel
theorem dX11_cast_7 : decode cX11_cast 7 = .ok (.iload_n 1, 1) := by decide +kernel
theorem dX11_cast_8 : decode cX11_cast 8 = .ok (.iload_n 2, 1) := by decide +kernel
theorem dX11_cast_9 : decode cX11_cast 9 = .ok (.invokevirtual 173, 3) := by decide +kernel
theorem dX11_cast_12 : decode cX11_cast 12 = .ok (.ifCond .ne 5, 3) := by decide +kernel
theorem dX11_cast_15 : decode cX11_cast 15 = .ok (.iconst (-1), 1) := by decide +kernel
theorem dX11_cast_16 : decode cX11_cast 16 = .ok (.ireturn, 1) := by decide +kernel
theorem dX11_cast_17 : decode cX11_cast 17 = .ok (.aload_n 0, 1) := by decide +kernel
theorem dX11_cast_18 : decode cX11_cast 18 = .ok (.getfield 65, 3) := by decide +kernel
theorem dX11_cast_21 : decode cX11_cast 21 = .ok (.aload_n 0, 1) := by decide +kernel
theorem dX11_cast_22 : decode cX11_cast 22 = .ok (.getfield 54, 3) := by decide +kernel
theorem dX11_cast_25 : decode cX11_cast 25 = .ok (.getfield 123, 3) := by decide +kernel
theorem dX11_cast_28 : decode cX11_cast 28 = .ok (.invokevirtual 159, 3) := by decide +kernel
theorem dX11_cast_31 : decode cX11_cast 31 = .ok (.aload_n 0, 1) := by decide +kernel
theorem dX11_cast_32 : decode cX11_cast 32 = .ok (.getfield 54, 3) := by decide +kernel
theorem dX11_cast_35 : decode cX11_cast 35 = .ok (.getfield 123, 3) := by decide +kernel
theorem dX11_cast_38 : decode cX11_cast 38 = .ok (.iload_n 1, 1) := by decide +kernel
theorem dX11_cast_39 : decode cX11_cast 39 = .ok (.iload_n 2, 1) := by decide +kernel
theorem dX11_cast_40 : decode cX11_cast 40 = .ok (.invokevirtual 176, 3) := by decide +kernel
theorem dX11_cast_43 : decode cX11_cast 43 = .ok (.aload_n 0, 1) := by decide +kernel
theorem dX11_cast_44 : decode cX11_cast 44 = .ok (.getfield 54, 3) := by decide +kernel
theorem dX11_cast_47 : decode cX11_cast 47 = .ok (.getfield 123, 3) := by decide +kernel
theorem dX11_cast_50 : decode cX11_cast 50 = .ok (.iload_n 2, 1) := by decide +kernel
theorem dX11_cast_51 : decode cX11_cast 51 = .ok (.invokevirtual 129, 3) := by decide +kernel
theorem dX11_cast_54 : decode cX11_cast 54 = .ok (.ireturn, 1) := by decide +kernel
def g_X11_cast (h : zH) (t0 : Nat) (x1 : Int32) (x2 : Int32) : Option (Int32 × zH) := (g_X7_canVote h (zR (zR t0 6) 0) x1 x2).bind fun v_1 => if (zb v_1) = 0 then (some ((-1), h)) else ((g_X3_keep h (zR t0 8) (zR (zR t0 6) 0)).bind fun v_3 => (g_X7_vote v_3 (zR (zR t0 6) 0) x1 x2).bind fun v_4 => (g_X7_countAgainst v_4 (zR (zR t0 6) 0) x2).bind fun v_5 => some (v_5, v_4))
set_option maxRecDepth 100000 in
set_option maxHeartbeats 4000000 in
theorem b_X11_cast {K : zK} {G : zG} (hK : zC K G cX11_cast RX11 3 3 65 (some .int)) {h : zH} {t0 : Nat} {x1 : Int32} {x2 : Int32} (ht0 : zT t0 = (10, 0)) {r : Int32 × zH} (hE : zE K G (some (.int r.1)) r.2) (hg : g_X11_cast h t0 x1 x2 = some r) : zW K G 3 0 [(0, .ref (G.2.2.2 t0)), (1, .int x1), (2, .int x2)] [] h := by
  rw [g_X11_cast] at hg
  obtain ⟨v_1, qv_1, hg⟩ := zbind_some hg
  refine z_aload_n (pc := 0) hK 0 dX11_cast_0 rfl (z_getR (pc := 1) hK f_X11_54_10 ht0 dX11_cast_1 (z_getR (pc := 4) hK f_X11_123_2 (zt_10_6 ht0) dX11_cast_4 (z_iload_n (pc := 7) hK 1 dX11_cast_7 rfl (z_iload_n (pc := 8) hK 2 dX11_cast_8 rfl (z_callVi (pc := 9) hK [.int x1, .int x2] (m_X7_canVote (zC_D hK) (zt_2_0 (zt_10_6 ht0)) qv_1) sv_X7_canVote q_999 (zt_2_0 (zt_10_6 ht0)) rfl [] rfl (Nat.le_of_ble_eq_true rfl) ⟨by decide, by decide⟩ dX11_cast_9 (z_if_ne (pc := 12) hK 17 dX11_cast_12 (by decide) (fun c_2 => ?_) (fun c_2 => ?_)))))))
  · rw [if_neg c_2] at hg
    obtain ⟨v_3, qv_3, hg⟩ := zbind_some hg
    obtain ⟨v_4, qv_4, hg⟩ := zbind_some hg
    obtain ⟨v_5, qv_5, hg⟩ := zbind_some hg
    exact z_aload_n (pc := 17) hK 0 dX11_cast_17 rfl (z_getR (pc := 18) hK f_X11_65_10 ht0 dX11_cast_18 (z_aload_n (pc := 21) hK 0 dX11_cast_21 rfl (z_getR (pc := 22) hK f_X11_54_10 ht0 dX11_cast_22 (z_getR (pc := 25) hK f_X11_123_2 (zt_10_6 ht0) dX11_cast_25 (z_callVv (pc := 28) hK [.ref (G.2.2.2 (zR (zR t0 6) 0))] (m_X3_keep (zC_D hK) (zt_10_8 ht0) (zt_2_0 (zt_10_6 ht0)) qv_3) sv_X3_keep q_931 (zt_10_8 ht0) rfl [] rfl (Nat.le_of_ble_eq_true rfl) ⟨by decide, by decide⟩ dX11_cast_28 (z_aload_n (pc := 31) hK 0 dX11_cast_31 rfl (z_getR (pc := 32) hK f_X11_54_10 ht0 dX11_cast_32 (z_getR (pc := 35) hK f_X11_123_2 (zt_10_6 ht0) dX11_cast_35 (z_iload_n (pc := 38) hK 1 dX11_cast_38 rfl (z_iload_n (pc := 39) hK 2 dX11_cast_39 rfl (z_callVv (pc := 40) hK [.int x1, .int x2] (m_X7_vote (zC_D hK) (zt_2_0 (zt_10_6 ht0)) qv_4) sv_X7_vote q_1004 (zt_2_0 (zt_10_6 ht0)) rfl [] rfl (Nat.le_of_ble_eq_true rfl) ⟨by decide, by decide⟩ dX11_cast_40 (z_aload_n (pc := 43) hK 0 dX11_cast_43 rfl (z_getR (pc := 44) hK f_X11_54_10 ht0 dX11_cast_44 (z_getR (pc := 47) hK f_X11_123_2 (zt_10_6 ht0) dX11_cast_47 (z_iload_n (pc := 50) hK 2 dX11_cast_50 rfl (z_callVi (pc := 51) hK [.int x2] (m_X7_countAgainst (zC_D hK) (zt_2_0 (zt_10_6 ht0)) qv_5) sv_X7_countAgainst q_879 (zt_2_0 (zt_10_6 ht0)) rfl [] rfl (Nat.le_of_ble_eq_true rfl) ⟨by decide, by decide⟩ dX11_cast_51 (z_iretE (pc := 54) hK hE hg dX11_cast_54)))))))))))))))))
  · rw [if_pos c_2] at hg
    exact z_iconst (pc := 15) hK dX11_cast_15 zc_im1 (z_iretE (pc := 16) hK hE hg dX11_cast_16)
theorem m_X11_cast {l : Launch} {G : zG} (hG : zD G) {h : zH} {t0 : Nat} {x1 : Int32} {x2 : Int32} (ht0 : zT t0 = (10, 0)) {r : Int32 × zH} (hg : g_X11_cast h t0 x1 x2 = some r) : zM l G yX11_cast cX11_cast 3 (some .int) 3 65 [.ref (G.2.2.2 t0), .int x1, .int x2] h (some (.int r.1)) r.2 :=
  zM_of hG pn_X11 (Nat.le_of_ble_eq_true rfl) (fun K _ hK hE => b_X11_cast hK ht0 hE hg)
theorem dX11_die_0 : decode cX11_die 0 = .ok (.aload_n 0, 1) := by decide +kernel
theorem dX11_die_1 : decode cX11_die 1 = .ok (.getfield 54, 3) := by decide +kernel
theorem dX11_die_4 : decode cX11_die 4 = .ok (.getfield 123, 3) := by decide +kernel
theorem dX11_die_7 : decode cX11_die 7 = .ok (.iload_n 1, 1) := by decide +kernel
theorem dX11_die_8 : decode cX11_die 8 = .ok (.invokevirtual 139, 3) := by decide +kernel
theorem dX11_die_11 : decode cX11_die 11 = .ok (.ifCond .ne 5, 3) := by decide +kernel
theorem dX11_die_14 : decode cX11_die 14 = .ok (.iconst (-1), 1) := by decide +kernel
theorem dX11_die_15 : decode cX11_die 15 = .ok (.ireturn, 1) := by decide +kernel
theorem dX11_die_16 : decode cX11_die 16 = .ok (.aload_n 0, 1) := by decide +kernel
theorem dX11_die_17 : decode cX11_die 17 = .ok (.getfield 65, 3) := by decide +kernel
theorem dX11_die_20 : decode cX11_die 20 = .ok (.aload_n 0, 1) := by decide +kernel
theorem dX11_die_21 : decode cX11_die 21 = .ok (.getfield 54, 3) := by decide +kernel
theorem dX11_die_24 : decode cX11_die 24 = .ok (.getfield 123, 3) := by decide +kernel
theorem dX11_die_27 : decode cX11_die 27 = .ok (.invokevirtual 159, 3) := by decide +kernel
theorem dX11_die_30 : decode cX11_die 30 = .ok (.aload_n 0, 1) := by decide +kernel
theorem dX11_die_31 : decode cX11_die 31 = .ok (.getfield 54, 3) := by decide +kernel
theorem dX11_die_34 : decode cX11_die 34 = .ok (.getfield 123, 3) := by decide +kernel
theorem dX11_die_37 : decode cX11_die 37 = .ok (.iload_n 1, 1) := by decide +kernel
theorem dX11_die_38 : decode cX11_die 38 = .ok (.invokevirtual 180, 3) := by decide +kernel
theorem dX11_die_41 : decode cX11_die 41 = .ok (.ireturn, 1) := by decide +kernel
def g_X11_die (h : zH) (t0 : Nat) (x1 : Int32) : Option (Int32 × zH) := (g_X7_isAlive h (zR (zR t0 6) 0) x1).bind fun v_1 => if (zb v_1) = 0 then (some ((-1), h)) else ((g_X3_keep h (zR t0 8) (zR (zR t0 6) 0)).bind fun v_3 => (g_X7_bury v_3 (zR (zR t0 6) 0) x1).bind fun v_4 => some (v_4.1, v_4.2))
set_option maxRecDepth 100000 in
set_option maxHeartbeats 4000000 in
theorem b_X11_die {K : zK} {G : zG} (hK : zC K G cX11_die RX11 2 3 60 (some .int)) {h : zH} {t0 : Nat} {x1 : Int32} (ht0 : zT t0 = (10, 0)) {r : Int32 × zH} (hE : zE K G (some (.int r.1)) r.2) (hg : g_X11_die h t0 x1 = some r) : zW K G 2 0 [(0, .ref (G.2.2.2 t0)), (1, .int x1)] [] h := by
  rw [g_X11_die] at hg
  obtain ⟨v_1, qv_1, hg⟩ := zbind_some hg
  refine z_aload_n (pc := 0) hK 0 dX11_die_0 rfl (z_getR (pc := 1) hK f_X11_54_10 ht0 dX11_die_1 (z_getR (pc := 4) hK f_X11_123_2 (zt_10_6 ht0) dX11_die_4 (z_iload_n (pc := 7) hK 1 dX11_die_7 rfl (z_callVi (pc := 8) hK [.int x1] (m_X7_isAlive (zC_D hK) (zt_2_0 (zt_10_6 ht0)) qv_1) sv_X7_isAlive q_891 (zt_2_0 (zt_10_6 ht0)) rfl [] rfl (Nat.le_of_ble_eq_true rfl) ⟨by decide, by decide⟩ dX11_die_8 (z_if_ne (pc := 11) hK 16 dX11_die_11 (by decide) (fun c_2 => ?_) (fun c_2 => ?_))))))
  · rw [if_neg c_2] at hg
    obtain ⟨v_3, qv_3, hg⟩ := zbind_some hg
    obtain ⟨v_4, qv_4, hg⟩ := zbind_some hg
    exact z_aload_n (pc := 16) hK 0 dX11_die_16 rfl (z_getR (pc := 17) hK f_X11_65_10 ht0 dX11_die_17 (z_aload_n (pc := 20) hK 0 dX11_die_20 rfl (z_getR (pc := 21) hK f_X11_54_10 ht0 dX11_die_21 (z_getR (pc := 24) hK f_X11_123_2 (zt_10_6 ht0) dX11_die_24 (z_callVv (pc := 27) hK [.ref (G.2.2.2 (zR (zR t0 6) 0))] (m_X3_keep (zC_D hK) (zt_10_8 ht0) (zt_2_0 (zt_10_6 ht0)) qv_3) sv_X3_keep q_931 (zt_10_8 ht0) rfl [] rfl (Nat.le_of_ble_eq_true rfl) ⟨by decide, by decide⟩ dX11_die_27 (z_aload_n (pc := 30) hK 0 dX11_die_30 rfl (z_getR (pc := 31) hK f_X11_54_10 ht0 dX11_die_31 (z_getR (pc := 34) hK f_X11_123_2 (zt_10_6 ht0) dX11_die_34 (z_iload_n (pc := 37) hK 1 dX11_die_37 rfl (z_callVi (pc := 38) hK [.int x1] (m_X7_bury (zC_D hK) (zt_2_0 (zt_10_6 ht0)) qv_4) sv_X7_bury q_1012 (zt_2_0 (zt_10_6 ht0)) rfl [] rfl (Nat.le_of_ble_eq_true rfl) ⟨by decide, by decide⟩ dX11_die_38 (z_iretE (pc := 41) hK hE hg dX11_die_41)))))))))))
  · rw [if_pos c_2] at hg
    exact z_iconst (pc := 14) hK dX11_die_14 zc_im1 (z_iretE (pc := 15) hK hE hg dX11_die_15)
theorem m_X11_die {l : Launch} {G : zG} (hG : zD G) {h : zH} {t0 : Nat} {x1 : Int32} (ht0 : zT t0 = (10, 0)) {r : Int32 × zH} (hg : g_X11_die h t0 x1 = some r) : zM l G yX11_die cX11_die 2 (some .int) 3 60 [.ref (G.2.2.2 t0), .int x1] h (some (.int r.1)) r.2 :=
  zM_of hG pn_X11 (Nat.le_of_ble_eq_true rfl) (fun K _ hK hE => b_X11_die hK ht0 hE hg)
