theorem dX4_takeEither_0 : decode cX4_takeEither 0 = .ok (.aload_n 0, 1) := by decide +kernel
theorem dX4_takeEither_1 : decode cX4_takeEither 1 = .ok (.getfield 9, 3) := by decide +kernel
theorem dX4_takeEither_4 : decode cX4_takeEither 4 = .ok (.getfield 31, 3) := by decide +kernel
theorem dX4_takeEither_7 : decode cX4_takeEither 7 = .ok (.iload_n 1, 1) := by decide +kernel
theorem dX4_takeEither_8 : decode cX4_takeEither 8 = .ok (.if_icmp .eq 20, 3) := by decide +kernel
theorem dX4_takeEither_11 : decode cX4_takeEither 11 = .ok (.aload_n 0, 1) := by decide +kernel
theorem dX4_takeEither_12 : decode cX4_takeEither 12 = .ok (.getfield 9, 3) := by decide +kernel
theorem dX4_takeEither_15 : decode cX4_takeEither 15 = .ok (.getfield 31, 3) := by decide +kernel
theorem dX4_takeEither_18 : decode cX4_takeEither 18 = .ok (.iload_n 2, 1) := by decide +kernel
theorem dX4_takeEither_19 : decode cX4_takeEither 19 = .ok (.if_icmp .eq 9, 3) := by decide +kernel
theorem dX4_takeEither_22 : decode cX4_takeEither 22 = .ok (.aload_n 0, 1) := by decide +kernel
theorem dX4_takeEither_23 : decode cX4_takeEither 23 = .ok (.iconst 1, 1) := by decide +kernel
theorem dX4_takeEither_24 : decode cX4_takeEither 24 = .ok (.invokevirtual 48, 3) := by decide +kernel
theorem dX4_takeEither_27 : decode cX4_takeEither 27 = .ok (.ireturn, 1) := by decide +kernel
theorem dX4_takeEither_28 : decode cX4_takeEither 28 = .ok (.aload_n 0, 1) := by decide +kernel
theorem dX4_takeEither_29 : decode cX4_takeEither 29 = .ok (.aload_n 0, 1) := by decide +kernel
theorem dX4_takeEither_30 : decode cX4_takeEither 30 = .ok (.getfield 9, 3) := by decide +kernel
theorem dX4_takeEither_33 : decode cX4_takeEither 33 = .ok (.getfield 31, 3) := by decide +kernel
theorem dX4_takeEither_36 : decode cX4_takeEither 36 = .ok (.iload_n 2, 1) := by decide +kernel
theorem dX4_takeEither_37 : decode cX4_takeEither 37 = .ok (.if_icmp .ne 7, 3) := by decide +kernel
theorem dX4_takeEither_40 : decode cX4_takeEither 40 = .ok (.iconst 1, 1) := by decide +kernel
theorem dX4_takeEither_41 : decode cX4_takeEither 41 = .ok (.goto 4, 3) := by decide +kernel
theorem dX4_takeEither_44 : decode cX4_takeEither 44 = .ok (.iconst 0, 1) := by decide +kernel
theorem dX4_takeEither_45 : decode cX4_takeEither 45 = .ok (.putfield 54, 3) := by decide +kernel
theorem dX4_takeEither_48 : decode cX4_takeEither 48 = .ok (.aload_n 0, 1) := by decide +kernel
theorem dX4_takeEither_49 : decode cX4_takeEither 49 = .ok (.getfield 9, 3) := by decide +kernel
theorem dX4_takeEither_52 : decode cX4_takeEither 52 = .ok (.invokevirtual 51, 3) := by decide +kernel
theorem dX4_takeEither_55 : decode cX4_takeEither 55 = .ok (.iconst 1, 1) := by decide +kernel
theorem dX4_takeEither_56 : decode cX4_takeEither 56 = .ok (.ireturn, 1) := by decide +kernel
def g_X4_takeEither_c5_45 (t0 : Nat)  (s0 : Int32) (h : zH) : Option (Bool × zH) := zlet (zpi h t0 2 s0) fun h_5 => (g_X8_lookAtNext h_5 (zR t0 0)).bind fun v_6 => some (true, v_6)
def g_X4_takeEither_c5_28 (t0 : Nat)  (x2 : Int32) (h : zH) : Option (Bool × zH) := if (h.1 (zR t0 0) 2) = x2 then (g_X4_takeEither_c5_45 t0 1 h) else (g_X4_takeEither_c5_45 t0 0 h)
def g_X4_takeEither_c5 (h : zH) (t0 : Nat) (x1 : Int32) (x2 : Int32) : Option (Bool × zH) := if (h.1 (zR t0 0) 2) = x1 then (g_X4_takeEither_c5_28 t0 x2 h) else (if (h.1 (zR t0 0) 2) = x2 then (g_X4_takeEither_c5_28 t0 x2 h) else ((g_X4_fail_c5 h t0 1).bind fun v_3 => some (v_3.1, v_3.2)))
set_option maxRecDepth 100000 in
set_option maxHeartbeats 4000000 in
theorem b_X4_takeEither_c5_45 {K : zK} {G : zG} (hK : zC K G cX4_takeEither RX4 3 6 130 (some .boolean)) {t0 : Nat} (ht0 : zT t0 = (5, 0)) {r : Bool × zH} (hE : zE K G (some (.int (zb r.1))) r.2) (s0 : Int32) (h : zH) (hg : g_X4_takeEither_c5_45 t0 s0 h = some r) : zW K G 3 45 [(0, .ref (G.2.2.2 t0))] [.int s0, .ref (G.2.2.2 t0)] h := by
  rw [g_X4_takeEither_c5_45] at hg
  obtain ⟨h_5, eh_5, hg⟩ := zlet_some hg
  obtain ⟨v_6, qv_6, hg⟩ := zbind_some hg
  exact z_putI (pc := 45) hK f_X4_54_5 fp_5_2 ht0 dX4_takeEither_45 (z_nameH eh_5 (z_aload_n (pc := 48) hK 0 dX4_takeEither_48 rfl (z_getR (pc := 49) hK f_X4_9_5 ht0 dX4_takeEither_49 (z_callVv (pc := 52) hK [] (m_X8_lookAtNext (zC_D hK) (zt_5_0 ht0) qv_6) sv_X8_lookAtNext q_707 (zt_5_0 ht0) rfl [] rfl (Nat.le_of_ble_eq_true rfl) ⟨by decide, by decide⟩ dX4_takeEither_52 (z_iconst (pc := 55) hK dX4_takeEither_55 zc_i1 (z_zretE (pc := 56) hK rfl hE hg dX4_takeEither_56))))))
set_option maxRecDepth 100000 in
set_option maxHeartbeats 4000000 in
theorem b_X4_takeEither_c5_28 {K : zK} {G : zG} (hK : zC K G cX4_takeEither RX4 3 6 130 (some .boolean)) {t0 : Nat} (ht0 : zT t0 = (5, 0)) {r : Bool × zH} (hE : zE K G (some (.int (zb r.1))) r.2) (x2 : Int32) (h : zH) (hg : g_X4_takeEither_c5_28 t0 x2 h = some r) : zW K G 3 28 [(0, .ref (G.2.2.2 t0)), (2, .int x2)] [] h := by
  rw [g_X4_takeEither_c5_28] at hg
  refine z_aload_n (pc := 28) hK 0 dX4_takeEither_28 rfl (z_aload_n (pc := 29) hK 0 dX4_takeEither_29 rfl (z_getR (pc := 30) hK f_X4_9_5 ht0 dX4_takeEither_30 (z_getI (pc := 33) hK f_X4_31_7 (zt_5_0 ht0) dX4_takeEither_33 (z_iload_n (pc := 36) hK 1 dX4_takeEither_36 rfl (z_icmp_ne (pc := 37) hK 44 dX4_takeEither_37 (by decide) (fun c_4 => ?_) (fun c_4 => ?_))))))
  · rw [if_neg c_4] at hg
    exact z_iconst (pc := 44) hK dX4_takeEither_44 zc_i0 (zsub (lv' := [(0, .ref (G.2.2.2 t0))]) [0] rfl (b_X4_takeEither_c5_45 hK ht0 hE 0 h hg))
  · rw [if_pos c_4] at hg
    exact z_iconst (pc := 40) hK dX4_takeEither_40 zc_i1 (z_goto (pc := 41) hK 45 dX4_takeEither_41 (by decide) (zsub (lv' := [(0, .ref (G.2.2.2 t0))]) [0] rfl (b_X4_takeEither_c5_45 hK ht0 hE 1 h hg)))
set_option maxRecDepth 100000 in
set_option maxHeartbeats 4000000 in
theorem b_X4_takeEither_c5 {K : zK} {G : zG} (hK : zC K G cX4_takeEither RX4 3 6 130 (some .boolean)) {h : zH} {t0 : Nat} {x1 : Int32} {x2 : Int32} (ht0 : zT t0 = (5, 0)) {r : Bool × zH} (hE : zE K G (some (.int (zb r.1))) r.2) (hg : g_X4_takeEither_c5 h t0 x1 x2 = some r) : zW K G 3 0 [(0, .ref (G.2.2.2 t0)), (1, .int x1), (2, .int x2)] [] h := by
  rw [g_X4_takeEither_c5] at hg
  refine z_aload_n (pc := 0) hK 0 dX4_takeEither_0 rfl (z_getR (pc := 1) hK f_X4_9_5 ht0 dX4_takeEither_1 (z_getI (pc := 4) hK f_X4_31_7 (zt_5_0 ht0) dX4_takeEither_4 (z_iload_n (pc := 7) hK 1 dX4_takeEither_7 rfl (z_icmp_eq (pc := 8) hK 28 dX4_takeEither_8 (by decide) (fun c_1 => ?_) (fun c_1 => ?_)))))
  · rw [if_pos c_1] at hg
    exact zsub (lv' := [(0, .ref (G.2.2.2 t0)), (2, .int x2)]) [0, 2] rfl (b_X4_takeEither_c5_28 hK ht0 hE x2 h hg)
  · rw [if_neg c_1] at hg
    refine z_aload_n (pc := 11) hK 0 dX4_takeEither_11 rfl (z_getR (pc := 12) hK f_X4_9_5 ht0 dX4_takeEither_12 (z_getI (pc := 15) hK f_X4_31_7 (zt_5_0 ht0) dX4_takeEither_15 (z_iload_n (pc := 18) hK 2 dX4_takeEither_18 rfl (z_icmp_eq (pc := 19) hK 28 dX4_takeEither_19 (by decide) (fun c_2 => ?_) (fun c_2 => ?_)))))
    · rw [if_pos c_2] at hg
      exact zsub (lv' := [(0, .ref (G.2.2.2 t0)), (2, .int x2)]) [0, 2] rfl (b_X4_takeEither_c5_28 hK ht0 hE x2 h hg)
    · rw [if_neg c_2] at hg
      obtain ⟨v_3, qv_3, hg⟩ := zbind_some hg
      exact z_aload_n (pc := 22) hK 0 dX4_takeEither_22 rfl (z_iconst (pc := 23) hK dX4_takeEither_23 zc_i1 (z_callUi (pc := 24) hK [.int 1] (m_X4_fail_c5 (zC_D hK) ht0 qv_3) su_X4_fail_c5_X4 q_706 ht0 rfl [] rfl (Nat.le_of_ble_eq_true rfl) ⟨by decide, by decide⟩ dX4_takeEither_24 (z_zretE (pc := 27) hK rfl hE hg dX4_takeEither_27)))
theorem m_X4_takeEither_c5 {l : Launch} {G : zG} (hG : zD G) {h : zH} {t0 : Nat} {x1 : Int32} {x2 : Int32} (ht0 : zT t0 = (5, 0)) {r : Bool × zH} (hg : g_X4_takeEither_c5 h t0 x1 x2 = some r) : zM l G yX4_takeEither cX4_takeEither 3 (some .boolean) 6 130 [.ref (G.2.2.2 t0), .int x1, .int x2] h (some (.int (zb r.1))) r.2 :=
  zM_of hG pn_X4 (Nat.le_of_ble_eq_true rfl) (fun K _ hK hE => b_X4_takeEither_c5 hK ht0 hE hg)
theorem dX6_readTies_0 : decode cX6_readTies 0 = .ok (.aload_n 0, 1) := by decide +kernel
theorem dX6_readTies_1 : decode cX6_readTies 1 = .ok (.invokevirtual 120, 3) := by decide +kernel
theorem dX6_readTies_4 : decode cX6_readTies 4 = .ok (.ifCond .eq 14, 3) := by decide +kernel
theorem dX6_readTies_7 : decode cX6_readTies 7 = .ok (.aload_n 0, 1) := by decide +kernel
theorem dX6_readTies_8 : decode cX6_readTies 8 = .ok (.bipush 29, 2) := by decide +kernel
theorem dX6_readTies_10 : decode cX6_readTies 10 = .ok (.bipush 30, 2) := by decide +kernel
theorem dX6_readTies_12 : decode cX6_readTies 12 = .ok (.invokevirtual 126, 3) := by decide +kernel
theorem dX6_readTies_15 : decode cX6_readTies 15 = .ok (.ifCond .ne 5, 3) := by decide +kernel
theorem dX6_readTies_18 : decode cX6_readTies 18 = .ok (.iconst 0, 1) := by decide +kernel
theorem dX6_readTies_19 : decode cX6_readTies 19 = .ok (.ireturn, 1) := by decide +kernel
theorem dX6_readTies_20 : decode cX6_readTies 20 = .ok (.aload_n 0, 1) := by decide +kernel
theorem dX6_readTies_21 : decode cX6_readTies 21 = .ok (.getfield 26, 3) := by decide +kernel
theorem dX6_readTies_24 : decode cX6_readTies 24 = .ok (.aload_n 0, 1) := by decide +kernel
theorem dX6_readTies_25 : decode cX6_readTies 25 = .ok (.getfield 100, 3) := by decide +kernel
theorem dX6_readTies_28 : decode cX6_readTies 28 = .ok (.iconst 1, 1) := by decide +kernel
theorem dX6_readTies_29 : decode cX6_readTies 29 = .ok (.if_icmp .ne 7, 3) := by decide +kernel
theorem dX6_readTies_32 : decode cX6_readTies 32 = .ok (.iconst 1, 1) := by decide +kernel
theorem dX6_readTies_33 : decode cX6_readTies 33 = .ok (.goto 4, 3) := by decide +kernel
theorem dX6_readTies_36 : decode cX6_readTies 36 = .ok (.iconst 0, 1) := by decide +kernel
theorem dX6_readTies_37 : decode cX6_readTies 37 = .ok (.putfield 133, 3) := by decide +kernel
theorem dX6_readTies_40 : decode cX6_readTies 40 = .ok (.iconst 1, 1) := by decide +kernel
theorem dX6_readTies_41 : decode cX6_readTies 41 = .ok (.ireturn, 1) := by decide +kernel
def g_X6_readTies_37 (t0 : Nat)  (s0 : Int32) (h : zH) : Option (Bool × zH) := zgu (zbit s0) <| zlet (zpi h (zR t0 1) 10 s0) fun h_7 => some (true, h_7)
def g_X6_readTies (h : zH) (t0 : Nat) : Option (Bool × zH) := (g_X6_takeOnce h t0).bind fun v_1 => if (zb v_1.1) = 0 then (some (false, v_1.2)) else ((g_X4_takeEither_c5 v_1.2 t0 29 30).bind fun v_3 => if (zb v_3.1) = 0 then (some (false, v_3.2)) else (if (v_3.2.1 t0 2) = 1 then (g_X6_readTies_37 t0 1 v_3.2) else (g_X6_readTies_37 t0 0 v_3.2)))
set_option maxRecDepth 100000 in
set_option maxHeartbeats 4000000 in
theorem b_X6_readTies_37 {K : zK} {G : zG} (hK : zC K G cX6_readTies RX6 1 7 152 (some .boolean)) {t0 : Nat} (ht0 : zT t0 = (5, 0)) {r : Bool × zH} (hE : zE K G (some (.int (zb r.1))) r.2) (s0 : Int32) (h : zH) (hg : g_X6_readTies_37 t0 s0 h = some r) : zW K G 1 37 [] [.int s0, .ref (G.2.2.2 (zR t0 1))] h := by
  rw [g_X6_readTies_37] at hg
  obtain ⟨c_6, hg⟩ := zgu_some hg
  obtain ⟨h_7, eh_7, hg⟩ := zlet_some hg
  exact z_putZ (pc := 37) hK f_X6_133_4 fp_4_10 c_6 (zt_5_1 ht0) dX6_readTies_37 (z_nameH eh_7 (z_iconst (pc := 40) hK dX6_readTies_40 zc_i1 (z_zretE (pc := 41) hK rfl hE hg dX6_readTies_41)))
set_option maxRecDepth 100000 in
set_option maxHeartbeats 4000000 in
theorem b_X6_readTies {K : zK} {G : zG} (hK : zC K G cX6_readTies RX6 1 7 152 (some .boolean)) {h : zH} {t0 : Nat} (ht0 : zT t0 = (5, 0)) {r : Bool × zH} (hE : zE K G (some (.int (zb r.1))) r.2) (hg : g_X6_readTies h t0 = some r) : zW K G 1 0 [(0, .ref (G.2.2.2 t0))] [] h := by
  rw [g_X6_readTies] at hg
  obtain ⟨v_1, qv_1, hg⟩ := zbind_some hg
  refine z_aload_n (pc := 0) hK 0 dX6_readTies_0 rfl (z_callVi (pc := 1) hK [] (m_X6_takeOnce (zC_D hK) ht0 qv_1) sv_X6_takeOnce q_746 ht0 rfl [] rfl (Nat.le_of_ble_eq_true rfl) ⟨by decide, by decide⟩ dX6_readTies_1 (z_if_eq (pc := 4) hK 18 dX6_readTies_4 (by decide) (fun c_2 => ?_) (fun c_2 => ?_)))
  · rw [if_pos c_2] at hg
    exact z_iconst (pc := 18) hK dX6_readTies_18 zc_i0 (z_zretE (pc := 19) hK rfl hE hg dX6_readTies_19)
  · rw [if_neg c_2] at hg
    obtain ⟨v_3, qv_3, hg⟩ := zbind_some hg
    refine z_aload_n (pc := 7) hK 0 dX6_readTies_7 rfl (z_bipush (pc := 8) hK dX6_readTies_8 zc_b29 (z_bipush (pc := 10) hK dX6_readTies_10 zc_b30 (z_callUi (pc := 12) hK [.int 29, .int 30] (m_X4_takeEither_c5 (zC_D hK) ht0 qv_3) su_X4_takeEither_c5_X6 q_754 ht0 rfl [] rfl (Nat.le_of_ble_eq_true rfl) ⟨by decide, by decide⟩ dX6_readTies_12 (z_if_ne (pc := 15) hK 20 dX6_readTies_15 (by decide) (fun c_4 => ?_) (fun c_4 => ?_)))))
    · rw [if_neg c_4] at hg
      refine z_aload_n (pc := 20) hK 0 dX6_readTies_20 rfl (z_getR (pc := 21) hK f_X6_26_5 ht0 dX6_readTies_21 (z_aload_n (pc := 24) hK 0 dX6_readTies_24 rfl (z_getI (pc := 25) hK f_X6_100_5 ht0 dX6_readTies_25 (z_iconst (pc := 28) hK dX6_readTies_28 zc_i1 (z_icmp_ne (pc := 29) hK 36 dX6_readTies_29 (by decide) (fun c_5 => ?_) (fun c_5 => ?_))))))
      · rw [if_neg c_5] at hg
        exact z_iconst (pc := 36) hK dX6_readTies_36 zc_i0 (zsub (lv' := []) [] rfl (b_X6_readTies_37 hK ht0 hE 0 v_3.2 hg))
      · rw [if_pos c_5] at hg
        exact z_iconst (pc := 32) hK dX6_readTies_32 zc_i1 (z_goto (pc := 33) hK 37 dX6_readTies_33 (by decide) (zsub (lv' := []) [] rfl (b_X6_readTies_37 hK ht0 hE 1 v_3.2 hg)))
    · rw [if_pos c_4] at hg
      exact z_iconst (pc := 18) hK dX6_readTies_18 zc_i0 (z_zretE (pc := 19) hK rfl hE hg dX6_readTies_19)
theorem m_X6_readTies {l : Launch} {G : zG} (hG : zD G) {h : zH} {t0 : Nat} (ht0 : zT t0 = (5, 0)) {r : Bool × zH} (hg : g_X6_readTies h t0 = some r) : zM l G yX6_readTies cX6_readTies 1 (some .boolean) 7 152 [.ref (G.2.2.2 t0)] h (some (.int (zb r.1))) r.2 :=
  zM_of hG pn_X6 (Nat.le_of_ble_eq_true rfl) (fun K _ hK hE => b_X6_readTies hK ht0 hE hg)
theorem dX6_readDead_0 : decode cX6_readDead 0 = .ok (.aload_n 0, 1) := by decide +kernel
theorem dX6_readDead_1 : decode cX6_readDead 1 = .ok (.invokevirtual 120, 3) := by decide +kernel
theorem dX6_readDead_4 : decode cX6_readDead 4 = .ok (.ifCond .eq 14, 3) := by decide +kernel
theorem dX6_readDead_7 : decode cX6_readDead 7 = .ok (.aload_n 0, 1) := by decide +kernel
theorem dX6_readDead_8 : decode cX6_readDead 8 = .ok (.bipush 27, 2) := by decide +kernel
theorem dX6_readDead_10 : decode cX6_readDead 10 = .ok (.bipush 28, 2) := by decide +kernel
theorem dX6_readDead_12 : decode cX6_readDead 12 = .ok (.invokevirtual 126, 3) := by decide +kernel
theorem dX6_readDead_15 : decode cX6_readDead 15 = .ok (.ifCond .ne 5, 3) := by decide +kernel
theorem dX6_readDead_18 : decode cX6_readDead 18 = .ok (.iconst 0, 1) := by decide +kernel
theorem dX6_readDead_19 : decode cX6_readDead 19 = .ok (.ireturn, 1) := by decide +kernel
theorem dX6_readDead_20 : decode cX6_readDead 20 = .ok (.aload_n 0, 1) := by decide +kernel
theorem dX6_readDead_21 : decode cX6_readDead 21 = .ok (.getfield 26, 3) := by decide +kernel
theorem dX6_readDead_24 : decode cX6_readDead 24 = .ok (.aload_n 0, 1) := by decide +kernel
theorem dX6_readDead_25 : decode cX6_readDead 25 = .ok (.getfield 100, 3) := by decide +kernel
theorem dX6_readDead_28 : decode cX6_readDead 28 = .ok (.iconst 1, 1) := by decide +kernel
theorem dX6_readDead_29 : decode cX6_readDead 29 = .ok (.if_icmp .ne 7, 3) := by decide +kernel
theorem dX6_readDead_32 : decode cX6_readDead 32 = .ok (.iconst 1, 1) := by decide +kernel
theorem dX6_readDead_33 : decode cX6_readDead 33 = .ok (.goto 4, 3) := by decide +kernel
theorem dX6_readDead_36 : decode cX6_readDead 36 = .ok (.iconst 0, 1) := by decide +kernel
theorem dX6_readDead_37 : decode cX6_readDead 37 = .ok (.putfield 129, 3) := by decide +kernel
theorem dX6_readDead_40 : decode cX6_readDead 40 = .ok (.iconst 1, 1) := by decide +kernel
theorem dX6_readDead_41 : decode cX6_readDead 41 = .ok (.ireturn, 1) := by decide +kernel
def g_X6_readDead_37 (t0 : Nat)  (s0 : Int32) (h : zH) : Option (Bool × zH) := zgu (zbit s0) <| zlet (zpi h (zR t0 1) 9 s0) fun h_7 => some (true, h_7)
def g_X6_readDead (h : zH) (t0 : Nat) : Option (Bool × zH) := (g_X6_takeOnce h t0).bind fun v_1 => if (zb v_1.1) = 0 then (some (false, v_1.2)) else ((g_X4_takeEither_c5 v_1.2 t0 27 28).bind fun v_3 => if (zb v_3.1) = 0 then (some (false, v_3.2)) else (if (v_3.2.1 t0 2) = 1 then (g_X6_readDead_37 t0 1 v_3.2) else (g_X6_readDead_37 t0 0 v_3.2)))
set_option maxRecDepth 100000 in
set_option maxHeartbeats 4000000 in
theorem b_X6_readDead_37 {K : zK} {G : zG} (hK : zC K G cX6_readDead RX6 1 7 152 (some .boolean)) {t0 : Nat} (ht0 : zT t0 = (5, 0)) {r : Bool × zH} (hE : zE K G (some (.int (zb r.1))) r.2) (s0 : Int32) (h : zH) (hg : g_X6_readDead_37 t0 s0 h = some r) : zW K G 1 37 [] [.int s0, .ref (G.2.2.2 (zR t0 1))] h := by
  rw [g_X6_readDead_37] at hg
  obtain ⟨c_6, hg⟩ := zgu_some hg
  obtain ⟨h_7, eh_7, hg⟩ := zlet_some hg
  exact z_putZ (pc := 37) hK f_X6_129_4 fp_4_9 c_6 (zt_5_1 ht0) dX6_readDead_37 (z_nameH eh_7 (z_iconst (pc := 40) hK dX6_readDead_40 zc_i1 (z_zretE (pc := 41) hK rfl hE hg dX6_readDead_41)))
set_option maxRecDepth 100000 in
set_option maxHeartbeats 4000000 in
theorem b_X6_readDead {K : zK} {G : zG} (hK : zC K G cX6_readDead RX6 1 7 152 (some .boolean)) {h : zH} {t0 : Nat} (ht0 : zT t0 = (5, 0)) {r : Bool × zH} (hE : zE K G (some (.int (zb r.1))) r.2) (hg : g_X6_readDead h t0 = some r) : zW K G 1 0 [(0, .ref (G.2.2.2 t0))] [] h := by
  rw [g_X6_readDead] at hg
  obtain ⟨v_1, qv_1, hg⟩ := zbind_some hg
  refine z_aload_n (pc := 0) hK 0 dX6_readDead_0 rfl (z_callVi (pc := 1) hK [] (m_X6_takeOnce (zC_D hK) ht0 qv_1) sv_X6_takeOnce q_746 ht0 rfl [] rfl (Nat.le_of_ble_eq_true rfl) ⟨by decide, by decide⟩ dX6_readDead_1 (z_if_eq (pc := 4) hK 18 dX6_readDead_4 (by decide) (fun c_2 => ?_) (fun c_2 => ?_)))
  · rw [if_pos c_2] at hg
    exact z_iconst (pc := 18) hK dX6_readDead_18 zc_i0 (z_zretE (pc := 19) hK rfl hE hg dX6_readDead_19)
  · rw [if_neg c_2] at hg
    obtain ⟨v_3, qv_3, hg⟩ := zbind_some hg
    refine z_aload_n (pc := 7) hK 0 dX6_readDead_7 rfl (z_bipush (pc := 8) hK dX6_readDead_8 zc_b27 (z_bipush (pc := 10) hK dX6_readDead_10 zc_b28 (z_callUi (pc := 12) hK [.int 27, .int 28] (m_X4_takeEither_c5 (zC_D hK) ht0 qv_3) su_X4_takeEither_c5_X6 q_754 ht0 rfl [] rfl (Nat.le_of_ble_eq_true rfl) ⟨by decide, by decide⟩ dX6_readDead_12 (z_if_ne (pc := 15) hK 20 dX6_readDead_15 (by decide) (fun c_4 => ?_) (fun c_4 => ?_)))))
    · rw [if_neg c_4] at hg
      refine z_aload_n (pc := 20) hK 0 dX6_readDead_20 rfl (z_getR (pc := 21) hK f_X6_26_5 ht0 dX6_readDead_21 (z_aload_n (pc := 24) hK 0 dX6_readDead_24 rfl (z_getI (pc := 25) hK f_X6_100_5 ht0 dX6_readDead_25 (z_iconst (pc := 28) hK dX6_readDead_28 zc_i1 (z_icmp_ne (pc := 29) hK 36 dX6_readDead_29 (by decide) (fun c_5 => ?_) (fun c_5 => ?_))))))
      · rw [if_neg c_5] at hg
        exact z_iconst (pc := 36) hK dX6_readDead_36 zc_i0 (zsub (lv' := []) [] rfl (b_X6_readDead_37 hK ht0 hE 0 v_3.2 hg))
      · rw [if_pos c_5] at hg
        exact z_iconst (pc := 32) hK dX6_readDead_32 zc_i1 (z_goto (pc := 33) hK 37 dX6_readDead_33 (by decide) (zsub (lv' := []) [] rfl (b_X6_readDead_37 hK ht0 hE 1 v_3.2 hg)))
    · rw [if_pos c_4] at hg
      exact z_iconst (pc := 18) hK dX6_readDead_18 zc_i0 (z_zretE (pc := 19) hK rfl hE hg dX6_readDead_19)
theorem m_X6_readDead {l : Launch} {G : zG} (hG : zD G) {h : zH} {t0 : Nat} (ht0 : zT t0 = (5, 0)) {r : Bool × zH} (hg : g_X6_readDead h t0 = some r) : zM l G yX6_readDead cX6_readDead 1 (some .boolean) 7 152 [.ref (G.2.2.2 t0)] h (some (.int (zb r.1))) r.2 :=
  zM_of hG pn_X6 (Nat.le_of_ble_eq_true rfl) (fun K _ hK hE => b_X6_readDead hK ht0 hE hg)
theorem dX4_takeNumber_0 : decode cX4_takeNumber 0 = .ok (.aload_n 0, 1) := by decide +kernel
theorem dX4_takeNumber_1 : decode cX4_takeNumber 1 = .ok (.getfield 9, 3) := by decide +kernel
theorem dX4_takeNumber_4 : decode cX4_takeNumber 4 = .ok (.getfield 31, 3) := by decide +kernel
theorem dX4_takeNumber_7 : decode cX4_takeNumber 7 = .ok (.iconst 3, 1) := by decide +kernel
theorem dX4_takeNumber_8 : decode cX4_takeNumber 8 = .ok (.if_icmp .eq 9, 3) := by decide +kernel
theorem dX4_takeNumber_11 : decode cX4_takeNumber 11 = .ok (.aload_n 0, 1) := by decide +kernel
theorem dX4_takeNumber_12 : decode cX4_takeNumber 12 = .ok (.iconst 1, 1) := by decide +kernel
theorem dX4_takeNumber_13 : decode cX4_takeNumber 13 = .ok (.invokevirtual 48, 3) := by decide +kernel
theorem dX4_takeNumber_16 : decode cX4_takeNumber 16 = .ok (.ireturn, 1) := by decide +kernel
theorem dX4_takeNumber_17 : decode cX4_takeNumber 17 = .ok (.aload_n 0, 1) := by decide +kernel
theorem dX4_takeNumber_18 : decode cX4_takeNumber 18 = .ok (.getfield 9, 3) := by decide +kernel
theorem dX4_takeNumber_21 : decode cX4_takeNumber 21 = .ok (.getfield 57, 3) := by decide +kernel
theorem dX4_takeNumber_24 : decode cX4_takeNumber 24 = .ok (.iload_n 1, 1) := by decide +kernel
theorem dX4_takeNumber_25 : decode cX4_takeNumber 25 = .ok (.if_icmp .lt 14, 3) := by decide +kernel
theorem dX4_takeNumber_28 : decode cX4_takeNumber 28 = .ok (.aload_n 0, 1) := by decide +kernel
theorem dX4_takeNumber_29 : decode cX4_takeNumber 29 = .ok (.getfield 9, 3) := by decide +kernel
theorem dX4_takeNumber_32 : decode cX4_takeNumber 32 = .ok (.getfield 57, 3) := by decide +kernel
theorem dX4_takeNumber_35 : decode cX4_takeNumber 35 = .ok (.iload_n 2, 1) := by decide +kernel
theorem dX4_takeNumber_36 : decode cX4_takeNumber 36 = .ok (.if_icmp .le 9, 3) := by decide +kernel
theorem dX4_takeNumber_39 : decode cX4_takeNumber 39 = .ok (.aload_n 0, 1) := by decide +kernel
theorem dX4_takeNumber_40 : decode cX4_takeNumber 40 = .ok (.iconst 4, 1) := by decide +kernel
theorem dX4_takeNumber_41 : decode cX4_takeNumber 41 = .ok (.invokevirtual 48, 3) := by decide +kernel
theorem dX4_takeNumber_44 : decode cX4_takeNumber 44 = .ok (.ireturn, 1) := by decide +kernel
theorem dX4_takeNumber_45 : decode cX4_takeNumber 45 = .ok (.aload_n 0, 1) := by decide +kernel
theorem dX4_takeNumber_46 : decode cX4_takeNumber 46 = .ok (.aload_n 0, 1) := by decide +kernel
theorem dX4_takeNumber_47 : decode cX4_takeNumber 47 = .ok (.getfield 9, 3) := by decide +kernel
theorem dX4_takeNumber_50 : decode cX4_takeNumber 50 = .ok (.getfield 57, 3) := by decide +kernel
theorem dX4_takeNumber_53 : decode cX4_takeNumber 53 = .ok (.putfield 54, 3) := by decide +kernel
theorem dX4_takeNumber_56 : decode cX4_takeNumber 56 = .ok (.aload_n 0, 1) := by decide +kernel
theorem dX4_takeNumber_57 : decode cX4_takeNumber 57 = .ok (.getfield 9, 3) := by decide +kernel
theorem dX4_takeNumber_60 : decode cX4_takeNumber 60 = .ok (.invokevirtual 51, 3) := by decide +kernel
theorem dX4_takeNumber_63 : decode cX4_takeNumber 63 = .ok (.iconst 1, 1) := by decide +kernel
theorem dX4_takeNumber_64 : decode cX4_takeNumber 64 = .ok (.ireturn, 1) := by decide +kernel
def g_X4_takeNumber_c5_39 (t0 : Nat)  (h : zH) : Option (Bool × zH) := (g_X4_fail_c5 h t0 4).bind fun v_7 => some (v_7.1, v_7.2)
def g_X4_takeNumber_c5 (h : zH) (t0 : Nat) (x1 : Int32) (x2 : Int32) : Option (Bool × zH) := if (h.1 (zR t0 0) 2) = 3 then (if (h.1 (zR t0 0) 4) < x1 then (g_X4_takeNumber_c5_39 t0 h) else (if (h.1 (zR t0 0) 4) ≤ x2 then (zlet (zpi h t0 2 (h.1 (zR t0 0) 4)) fun h_4 => (g_X8_lookAtNext h_4 (zR t0 0)).bind fun v_5 => some (true, v_5)) else (g_X4_takeNumber_c5_39 t0 h))) else ((g_X4_fail_c5 h t0 1).bind fun v_6 => some (v_6.1, v_6.2))
set_option maxRecDepth 100000 in
set_option maxHeartbeats 4000000 in
theorem b_X4_takeNumber_c5_39 {K : zK} {G : zG} (hK : zC K G cX4_takeNumber RX4 3 6 130 (some .boolean)) {t0 : Nat} (ht0 : zT t0 = (5, 0)) {r : Bool × zH} (hE : zE K G (some (.int (zb r.1))) r.2) (h : zH) (hg : g_X4_takeNumber_c5_39 t0 h = some r) : zW K G 3 39 [(0, .ref (G.2.2.2 t0))] [] h := by
  rw [g_X4_takeNumber_c5_39] at hg
  obtain ⟨v_7, qv_7, hg⟩ := zbind_some hg
  exact z_aload_n (pc := 39) hK 0 dX4_takeNumber_39 rfl (z_iconst (pc := 40) hK dX4_takeNumber_40 zc_i4 (z_callUi (pc := 41) hK [.int 4] (m_X4_fail_c5 (zC_D hK) ht0 qv_7) su_X4_fail_c5_X4 q_706 ht0 rfl [] rfl (Nat.le_of_ble_eq_true rfl) ⟨by decide, by decide⟩ dX4_takeNumber_41 (z_zretE (pc := 44) hK rfl hE hg dX4_takeNumber_44)))
set_option maxRecDepth 100000 in
set_option maxHeartbeats 4000000 in
theorem b_X4_takeNumber_c5 {K : zK} {G : zG} (hK : zC K G cX4_takeNumber RX4 3 6 130 (some .boolean)) {h : zH} {t0 : Nat} {x1 : Int32} {x2 : Int32} (ht0 : zT t0 = (5, 0)) {r : Bool × zH} (hE : zE K G (some (.int (zb r.1))) r.2) (hg : g_X4_takeNumber_c5 h t0 x1 x2 = some r) : zW K G 3 0 [(0, .ref (G.2.2.2 t0)), (1, .int x1), (2, .int x2)] [] h := by
  rw [g_X4_takeNumber_c5] at hg
  refine z_aload_n (pc := 0) hK 0 dX4_takeNumber_0 rfl (z_getR (pc := 1) hK f_X4_9_5 ht0 dX4_takeNumber_1 (z_getI (pc := 4) hK f_X4_31_7 (zt_5_0 ht0) dX4_takeNumber_4 (z_iconst (pc := 7) hK dX4_takeNumber_7 zc_i3 (z_icmp_eq (pc := 8) hK 17 dX4_takeNumber_8 (by decide) (fun c_1 => ?_) (fun c_1 => ?_)))))
  · rw [if_pos c_1] at hg
    refine z_aload_n (pc := 17) hK 0 dX4_takeNumber_17 rfl (z_getR (pc := 18) hK f_X4_9_5 ht0 dX4_takeNumber_18 (z_getI (pc := 21) hK f_X4_57_7 (zt_5_0 ht0) dX4_takeNumber_21 (z_iload_n (pc := 24) hK 1 dX4_takeNumber_24 rfl (z_icmp_lt (pc := 25) hK 39 dX4_takeNumber_25 (by decide) (fun c_2 => ?_) (fun c_2 => ?_)))))
    · rw [if_pos c_2] at hg
      exact zsub (lv' := [(0, .ref (G.2.2.2 t0))]) [0] rfl (b_X4_takeNumber_c5_39 hK ht0 hE h hg)
    · rw [if_neg c_2] at hg
      refine z_aload_n (pc := 28) hK 0 dX4_takeNumber_28 rfl (z_getR (pc := 29) hK f_X4_9_5 ht0 dX4_takeNumber_29 (z_getI (pc := 32) hK f_X4_57_7 (zt_5_0 ht0) dX4_takeNumber_32 (z_iload_n (pc := 35) hK 2 dX4_takeNumber_35 rfl (z_icmp_le (pc := 36) hK 45 dX4_takeNumber_36 (by decide) (fun c_3 => ?_) (fun c_3 => ?_)))))
      · rw [if_pos c_3] at hg
        obtain ⟨h_4, eh_4, hg⟩ := zlet_some hg
        obtain ⟨v_5, qv_5, hg⟩ := zbind_some hg
        exact z_aload_n (pc := 45) hK 0 dX4_takeNumber_45 rfl (z_aload_n (pc := 46) hK 0 dX4_takeNumber_46 rfl (z_getR (pc := 47) hK f_X4_9_5 ht0 dX4_takeNumber_47 (z_getI (pc := 50) hK f_X4_57_7 (zt_5_0 ht0) dX4_takeNumber_50 (z_putI (pc := 53) hK f_X4_54_5 fp_5_2 ht0 dX4_takeNumber_53 (z_nameH eh_4 (z_aload_n (pc := 56) hK 0 dX4_takeNumber_56 rfl (z_getR (pc := 57) hK f_X4_9_5 ht0 dX4_takeNumber_57 (z_callVv (pc := 60) hK [] (m_X8_lookAtNext (zC_D hK) (zt_5_0 ht0) qv_5) sv_X8_lookAtNext q_707 (zt_5_0 ht0) rfl [] rfl (Nat.le_of_ble_eq_true rfl) ⟨by decide, by decide⟩ dX4_takeNumber_60 (z_iconst (pc := 63) hK dX4_takeNumber_63 zc_i1 (z_zretE (pc := 64) hK rfl hE hg dX4_takeNumber_64))))))))))
      · rw [if_neg c_3] at hg
        exact zsub (lv' := [(0, .ref (G.2.2.2 t0))]) [0] rfl (b_X4_takeNumber_c5_39 hK ht0 hE h hg)
  · rw [if_neg c_1] at hg
    obtain ⟨v_6, qv_6, hg⟩ := zbind_some hg
    exact z_aload_n (pc := 11) hK 0 dX4_takeNumber_11 rfl (z_iconst (pc := 12) hK dX4_takeNumber_12 zc_i1 (z_callUi (pc := 13) hK [.int 1] (m_X4_fail_c5 (zC_D hK) ht0 qv_6) su_X4_fail_c5_X4 q_706 ht0 rfl [] rfl (Nat.le_of_ble_eq_true rfl) ⟨by decide, by decide⟩ dX4_takeNumber_13 (z_zretE (pc := 16) hK rfl hE hg dX4_takeNumber_16)))
theorem m_X4_takeNumber_c5 {l : Launch} {G : zG} (hG : zD G) {h : zH} {t0 : Nat} {x1 : Int32} {x2 : Int32} (ht0 : zT t0 = (5, 0)) {r : Bool × zH} (hg : g_X4_takeNumber_c5 h t0 x1 x2 = some r) : zM l G yX4_takeNumber cX4_takeNumber 3 (some .boolean) 6 130 [.ref (G.2.2.2 t0), .int x1, .int x2] h (some (.int (zb r.1))) r.2 :=
  zM_of hG pn_X4 (Nat.le_of_ble_eq_true rfl) (fun K _ hK hE => b_X4_takeNumber_c5 hK ht0 hE hg)
theorem dX6_readBar_0 : decode cX6_readBar 0 = .ok (.aload_n 0, 1) := by decide +kernel
theorem dX6_readBar_1 : decode cX6_readBar 1 = .ok (.invokevirtual 120, 3) := by decide +kernel
theorem dX6_readBar_4 : decode cX6_readBar 4 = .ok (.ifCond .eq 13, 3) := by decide +kernel
theorem dX6_readBar_7 : decode cX6_readBar 7 = .ok (.aload_n 0, 1) := by decide +kernel
theorem dX6_readBar_8 : decode cX6_readBar 8 = .ok (.iconst 1, 1) := by decide +kernel
theorem dX6_readBar_9 : decode cX6_readBar 9 = .ok (.bipush 9, 2) := by decide +kernel
theorem dX6_readBar_11 : decode cX6_readBar 11 = .ok (.invokevirtual 96, 3) := by decide +kernel
theorem dX6_readBar_14 : decode cX6_readBar 14 = .ok (.ifCond .ne 5, 3) := by decide +kernel
theorem dX6_readBar_17 : decode cX6_readBar 17 = .ok (.iconst 0, 1) := by decide +kernel
theorem dX6_readBar_18 : decode cX6_readBar 18 = .ok (.ireturn, 1) := by decide +kernel
theorem dX6_readBar_19 : decode cX6_readBar 19 = .ok (.aload_n 0, 1) := by decide +kernel
theorem dX6_readBar_20 : decode cX6_readBar 20 = .ok (.getfield 26, 3) := by decide +kernel
theorem dX6_readBar_23 : decode cX6_readBar 23 = .ok (.aload_n 0, 1) := by decide +kernel
theorem dX6_readBar_24 : decode cX6_readBar 24 = .ok (.getfield 100, 3) := by decide +kernel
theorem dX6_readBar_27 : decode cX6_readBar 27 = .ok (.putfield 123, 3) := by decide +kernel
theorem dX6_readBar_30 : decode cX6_readBar 30 = .ok (.iconst 1, 1) := by decide +kernel
theorem dX6_readBar_31 : decode cX6_readBar 31 = .ok (.ireturn, 1) := by decide +kernel
def g_X6_readBar (h : zH) (t0 : Nat) : Option (Bool × zH) := (g_X6_takeOnce h t0).bind fun v_1 => if (zb v_1.1) = 0 then (some (false, v_1.2)) else ((g_X4_takeNumber_c5 v_1.2 t0 1 9).bind fun v_3 => if (zb v_3.1) = 0 then (some (false, v_3.2)) else (zlet (zpi v_3.2 (zR t0 1) 8 (v_3.2.1 t0 2)) fun h_5 => some (true, h_5)))
set_option maxRecDepth 100000 in
set_option maxHeartbeats 4000000 in
theorem b_X6_readBar {K : zK} {G : zG} (hK : zC K G cX6_readBar RX6 1 7 152 (some .boolean)) {h : zH} {t0 : Nat} (ht0 : zT t0 = (5, 0)) {r : Bool × zH} (hE : zE K G (some (.int (zb r.1))) r.2) (hg : g_X6_readBar h t0 = some r) : zW K G 1 0 [(0, .ref (G.2.2.2 t0))] [] h := by
  rw [g_X6_readBar] at hg
  obtain ⟨v_1, qv_1, hg⟩ := zbind_some hg
  refine z_aload_n (pc := 0) hK 0 dX6_readBar_0 rfl (z_callVi (pc := 1) hK [] (m_X6_takeOnce (zC_D hK) ht0 qv_1) sv_X6_takeOnce q_746 ht0 rfl [] rfl (Nat.le_of_ble_eq_true rfl) ⟨by decide, by decide⟩ dX6_readBar_1 (z_if_eq (pc := 4) hK 17 dX6_readBar_4 (by decide) (fun c_2 => ?_) (fun c_2 => ?_)))
  · rw [if_pos c_2] at hg
    exact z_iconst (pc := 17) hK dX6_readBar_17 zc_i0 (z_zretE (pc := 18) hK rfl hE hg dX6_readBar_18)
  · rw [if_neg c_2] at hg
    obtain ⟨v_3, qv_3, hg⟩ := zbind_some hg
    refine z_aload_n (pc := 7) hK 0 dX6_readBar_7 rfl (z_iconst (pc := 8) hK dX6_readBar_8 zc_i1 (z_bipush (pc := 9) hK dX6_readBar_9 zc_b9 (z_callUi (pc := 11) hK [.int 1, .int 9] (m_X4_takeNumber_c5 (zC_D hK) ht0 qv_3) su_X4_takeNumber_c5_X6 q_708 ht0 rfl [] rfl (Nat.le_of_ble_eq_true rfl) ⟨by decide, by decide⟩ dX6_readBar_11 (z_if_ne (pc := 14) hK 19 dX6_readBar_14 (by decide) (fun c_4 => ?_) (fun c_4 => ?_)))))
    · rw [if_neg c_4] at hg
      obtain ⟨h_5, eh_5, hg⟩ := zlet_some hg
      exact z_aload_n (pc := 19) hK 0 dX6_readBar_19 rfl (z_getR (pc := 20) hK f_X6_26_5 ht0 dX6_readBar_20 (z_aload_n (pc := 23) hK 0 dX6_readBar_23 rfl (z_getI (pc := 24) hK f_X6_100_5 ht0 dX6_readBar_24 (z_putI (pc := 27) hK f_X6_123_4 fp_4_8 (zt_5_1 ht0) dX6_readBar_27 (z_nameH eh_5 (z_iconst (pc := 30) hK dX6_readBar_30 zc_i1 (z_zretE (pc := 31) hK rfl hE hg dX6_readBar_31)))))))
    · rw [if_pos c_4] at hg
      exact z_iconst (pc := 17) hK dX6_readBar_17 zc_i0 (z_zretE (pc := 18) hK rfl hE hg dX6_readBar_18)
theorem m_X6_readBar {l : Launch} {G : zG} (hG : zD G) {h : zH} {t0 : Nat} (ht0 : zT t0 = (5, 0)) {r : Bool × zH} (hg : g_X6_readBar h t0 = some r) : zM l G yX6_readBar cX6_readBar 1 (some .boolean) 7 152 [.ref (G.2.2.2 t0)] h (some (.int (zb r.1))) r.2 :=
  zM_of hG pn_X6 (Nat.le_of_ble_eq_true rfl) (fun K _ hK hE => b_X6_readBar hK ht0 hE hg)
theorem dX8_isName_0 : decode cX8_isName 0 = .ok (.aload_n 0, 1) := by decide +kernel
theorem dX8_isName_1 : decode cX8_isName 1 = .ok (.getfield 30, 3) := by decide +kernel
theorem dX8_isName_4 : decode cX8_isName 4 = .ok (.iconst 2, 1) := by decide +kernel
theorem dX8_isName_5 : decode cX8_isName 5 = .ok (.if_icmp .eq 12, 3) := by decide +kernel
theorem dX8_isName_8 : decode cX8_isName 8 = .ok (.aload_n 0, 1) := by decide +kernel
theorem dX8_isName_9 : decode cX8_isName 9 = .ok (.getfield 30, 3) := by decide +kernel
theorem dX8_isName_12 : decode cX8_isName 12 = .ok (.bipush 38, 2) := by decide +kernel
theorem dX8_isName_14 : decode cX8_isName 14 = .ok (.if_icmp .lt 7, 3) := by decide +kernel
theorem dX8_isName_17 : decode cX8_isName 17 = .ok (.iconst 1, 1) := by decide +kernel
theorem dX8_isName_18 : decode cX8_isName 18 = .ok (.goto 4, 3) := by decide +kernel
theorem dX8_isName_21 : decode cX8_isName 21 = .ok (.iconst 0, 1) := by decide +kernel
theorem dX8_isName_22 : decode cX8_isName 22 = .ok (.ireturn, 1) := by decide +kernel
def g_X8_isName (h : zH) (t0 : Nat) : Option Bool := if (h.1 t0 2) = 2 then (some true) else (if (h.1 t0 2) < 38 then (some false) else (some true))
set_option maxRecDepth 100000 in
set_option maxHeartbeats 4000000 in
theorem b_X8_isName {K : zK} {G : zG} (hK : zC K G cX8_isName RX8 1 0 0 (some .boolean)) {h : zH} {t0 : Nat} (ht0 : zT t0 = (7, 0)) {r : Bool} (hE : zE K G (some (.int (zb r))) h) (hg : g_X8_isName h t0 = some r) : zW K G 1 0 [(0, .ref (G.2.2.2 t0))] [] h := by
  rw [g_X8_isName] at hg
  refine z_aload_n (pc := 0) hK 0 dX8_isName_0 rfl (z_getI (pc := 1) hK f_X8_30_7 ht0 dX8_isName_1 (z_iconst (pc := 4) hK dX8_isName_4 zc_i2 (z_icmp_eq (pc := 5) hK 17 dX8_isName_5 (by decide) (fun c_1 => ?_) (fun c_1 => ?_))))
  · rw [if_pos c_1] at hg
    exact z_iconst (pc := 17) hK dX8_isName_17 zc_i1 (z_goto (pc := 18) hK 22 dX8_isName_18 (by decide) (z_zretP (pc := 22) hK rfl hE hg dX8_isName_22))
  · rw [if_neg c_1] at hg
    refine z_aload_n (pc := 8) hK 0 dX8_isName_8 rfl (z_getI (pc := 9) hK f_X8_30_7 ht0 dX8_isName_9 (z_bipush (pc := 12) hK dX8_isName_12 zc_b38 (z_icmp_lt (pc := 14) hK 21 dX8_isName_14 (by decide) (fun c_2 => ?_) (fun c_2 => ?_))))
    · rw [if_pos c_2] at hg
      exact z_iconst (pc := 21) hK dX8_isName_21 zc_i0 (z_zretP (pc := 22) hK rfl hE hg dX8_isName_22)
    · rw [if_neg c_2] at hg
      exact z_iconst (pc := 17) hK dX8_isName_17 zc_i1 (z_goto (pc := 18) hK 22 dX8_isName_18 (by decide) (z_zretP (pc := 22) hK rfl hE hg dX8_isName_22))
theorem m_X8_isName {l : Launch} {G : zG} (hG : zD G) {h : zH} {t0 : Nat} (ht0 : zT t0 = (7, 0)) {r : Bool} (hg : g_X8_isName h t0 = some r) : zM l G yX8_isName cX8_isName 1 (some .boolean) 0 0 [.ref (G.2.2.2 t0)] h (some (.int (zb r))) h :=
  zM_of hG pn_X8 (Nat.le_of_ble_eq_true rfl) (fun K _ hK hE => b_X8_isName hK ht0 hE hg)
theorem dX8_packedWord_0 : decode cX8_packedWord 0 = .ok (.lconst 0, 1) := by decide +kernel
theorem dX8_packedWord_1 : decode cX8_packedWord 1 = .ok (.lstore_n 1, 1) := by decide +kernel
theorem dX8_packedWord_2 : decode cX8_packedWord 2 = .ok (.aload_n 0, 1) := by decide +kernel
theorem dX8_packedWord_3 : decode cX8_packedWord 3 = .ok (.getfield 23, 3) := by decide +kernel
theorem dX8_packedWord_6 : decode cX8_packedWord 6 = .ok (.istore_n 3, 1) := by decide +kernel
theorem dX8_packedWord_7 : decode cX8_packedWord 7 = .ok (.iload_n 3, 1) := by decide +kernel
theorem dX8_packedWord_8 : decode cX8_packedWord 8 = .ok (.aload_n 0, 1) := by decide +kernel
theorem dX8_packedWord_9 : decode cX8_packedWord 9 = .ok (.getfield 17, 3) := by decide +kernel
theorem dX8_packedWord_12 : decode cX8_packedWord 12 = .ok (.if_icmp .ge 28, 3) := by decide +kernel
theorem dX8_packedWord_15 : decode cX8_packedWord 15 = .ok (.lload_n 1, 1) := by decide +kernel
theorem dX8_packedWord_16 : decode cX8_packedWord 16 = .ok (.ldc2_w 68, 3) := by decide +kernel
theorem dX8_packedWord_19 : decode cX8_packedWord 19 = .ok (.lmul, 1) := by decide +kernel
theorem dX8_packedWord_20 : decode cX8_packedWord 20 = .ok (.aload_n 0, 1) := by decide +kernel
theorem dX8_packedWord_21 : decode cX8_packedWord 21 = .ok (.getfield 9, 3) := by decide +kernel
theorem dX8_packedWord_24 : decode cX8_packedWord 24 = .ok (.iload_n 3, 1) := by decide +kernel
theorem dX8_packedWord_25 : decode cX8_packedWord 25 = .ok (.caload, 1) := by decide +kernel
theorem dX8_packedWord_26 : decode cX8_packedWord 26 = .ok (.bipush 97, 2) := by decide +kernel
theorem dX8_packedWord_28 : decode cX8_packedWord 28 = .ok (.isub, 1) := by decide +kernel
theorem dX8_packedWord_29 : decode cX8_packedWord 29 = .ok (.iconst 1, 1) := by decide +kernel
theorem dX8_packedWord_30 : decode cX8_packedWord 30 = .ok (.iadd, 1) := by decide +kernel
theorem dX8_packedWord_31 : decode cX8_packedWord 31 = .ok (.i2l, 1) := by decide +kernel
theorem dX8_packedWord_32 : decode cX8_packedWord 32 = .ok (.ladd, 1) := by decide +kernel
theorem dX8_packedWord_33 : decode cX8_packedWord 33 = .ok (.lstore_n 1, 1) := by decide +kernel
theorem dX8_packedWord_34 : decode cX8_packedWord 34 = .ok (.iinc 3 1, 3) := by decide +kernel
theorem dX8_packedWord_37 : decode cX8_packedWord 37 = .ok (.goto (-30), 3) := by decide +kernel
theorem dX8_packedWord_40 : decode cX8_packedWord 40 = .ok (.lload_n 1, 1) := by decide +kernel
theorem dX8_packedWord_41 : decode cX8_packedWord 41 = .ok (.lreturn, 1) := by decide +kernel
def g_X8_packedWord_7 (h : zH) (t0 : Nat)  : Nat → Int64 → Int32 → Option Int64
  | 0, _, _ => none
  | n + 1, x1, x3 => if (h.1 t0 5) ≤ x3 then (some x1) else (zgu (zin x3 1000) <| zlet ((x1 * 32) + ((((h.1 (zR t0 0) (zx x3)) - 97) + 1).toInt64)) fun v_3 => g_X8_packedWord_7 h t0 n v_3 (x3 + 1))
def g_X8_packedWord (h : zH) (t0 : Nat) : Option Int64 := g_X8_packedWord_7 h t0 zfu 0 (h.1 t0 3)
set_option maxRecDepth 100000 in
set_option maxHeartbeats 4000000 in
theorem b_X8_packedWord_7 {K : zK} {G : zG} (hK : zC K G cX8_packedWord RX8 4 0 0 (some .long)) {h : zH} {t0 : Nat} (ht0 : zT t0 = (7, 0)) {r : Int64} (hE : zE K G (some (.long r)) h) : ∀ (n : Nat) (x1 : Int64) (x3 : Int32), g_X8_packedWord_7 h t0 n x1 x3 = some r → zW K G 4 7 [(0, .ref (G.2.2.2 t0)), (1, .long x1), (3, .int x3)] [] h := by
  intro n
  induction n with
  | zero => intro x1 x3 hg; exact nomatch (show none = some r from hg)
  | succ n ih =>
    intro x1 x3 hg
    rw [g_X8_packedWord_7] at hg
    refine z_iload_n (pc := 7) hK 2 dX8_packedWord_7 rfl (z_aload_n (pc := 8) hK 0 dX8_packedWord_8 rfl (z_getI (pc := 9) hK f_X8_17_7 ht0 dX8_packedWord_9 (z_icmp_ge (pc := 12) hK 40 dX8_packedWord_12 (by decide) (fun c_1 => ?_) (fun c_1 => ?_))))
    · rw [if_pos c_1] at hg
      exact z_lload_n (pc := 40) hK 1 dX8_packedWord_40 rfl (z_lretP (pc := 41) hK hE hg dX8_packedWord_41)
    · rw [if_neg c_1] at hg
      obtain ⟨c_2, hg⟩ := zgu_some hg
      obtain ⟨v_3, ev_3, hg⟩ := zlet_some hg
      exact z_lload_n (pc := 15) hK 1 dX8_packedWord_15 rfl (z_ldc2 (pc := 16) hK q_695 dX8_packedWord_16 (z_lmul (pc := 19) hK dX8_packedWord_19 (z_aload_n (pc := 20) hK 0 dX8_packedWord_20 rfl (z_getR (pc := 21) hK f_X8_9_7 ht0 dX8_packedWord_21 (z_iload_n (pc := 24) hK 2 dX8_packedWord_24 rfl (z_cald (pc := 25) hK (zt_7_0 ht0) c_2 dX8_packedWord_25 (z_bipush (pc := 26) hK dX8_packedWord_26 zc_b97 (z_isub (pc := 28) hK dX8_packedWord_28 (z_iconst (pc := 29) hK dX8_packedWord_29 zc_i1 (z_iadd (pc := 30) hK dX8_packedWord_30 (z_i2l (pc := 31) hK dX8_packedWord_31 rfl (z_ladd (pc := 32) hK dX8_packedWord_32 (z_nameL ev_3 (z_lstore_n (pc := 33) hK (lv' := [(1, .long v_3), (0, .ref (G.2.2.2 t0)), (3, .int x3)]) dX8_packedWord_33 (by decide) rfl (z_iinc (pc := 34) hK 2 (lv' := [(3, .int (x3 + 1)), (1, .long v_3), (0, .ref (G.2.2.2 t0))]) dX8_packedWord_34 rfl (zc_n1 _) (by decide) rfl (z_goto (pc := 37) hK 7 dX8_packedWord_37 (by decide) (zsub (lv' := [(0, .ref (G.2.2.2 t0)), (1, .long v_3), (3, .int (x3 + 1))]) [2, 1, 0] rfl (ih v_3 (x3 + 1) hg))))))))))))))))))
set_option maxRecDepth 100000 in
set_option maxHeartbeats 4000000 in
theorem b_X8_packedWord {K : zK} {G : zG} (hK : zC K G cX8_packedWord RX8 4 0 0 (some .long)) {h : zH} {t0 : Nat} (ht0 : zT t0 = (7, 0)) {r : Int64} (hE : zE K G (some (.long r)) h) (hg : g_X8_packedWord h t0 = some r) : zW K G 4 0 [(0, .ref (G.2.2.2 t0))] [] h := by
  rw [g_X8_packedWord] at hg
  exact z_lconst (pc := 0) hK dX8_packedWord_0 zc_l0 (z_lstore_n (pc := 1) hK (lv' := [(1, .long 0), (0, .ref (G.2.2.2 t0))]) dX8_packedWord_1 (by decide) rfl (z_aload_n (pc := 2) hK 1 dX8_packedWord_2 rfl (z_getI (pc := 3) hK f_X8_23_7 ht0 dX8_packedWord_3 (z_istore_n (pc := 6) hK (lv' := [(3, .int (h.1 t0 3)), (1, .long 0), (0, .ref (G.2.2.2 t0))]) dX8_packedWord_6 (by decide) rfl (zsub (lv' := [(0, .ref (G.2.2.2 t0)), (1, .long 0), (3, .int (h.1 t0 3))]) [2, 1, 0] rfl (b_X8_packedWord_7 hK ht0 hE zfu 0 (h.1 t0 3) hg))))))
theorem m_X8_packedWord {l : Launch} {G : zG} (hG : zD G) {h : zH} {t0 : Nat} (ht0 : zT t0 = (7, 0)) {r : Int64} (hg : g_X8_packedWord h t0 = some r) : zM l G yX8_packedWord cX8_packedWord 4 (some .long) 0 0 [.ref (G.2.2.2 t0)] h (some (.long r)) h :=
  zM_of hG pn_X8 (Nat.le_of_ble_eq_true rfl) (fun K _ hK hE => b_X8_packedWord hK ht0 hE hg)
theorem dX4_findPerson_0 : decode cX4_findPerson 0 = .ok (.aload_n 0, 1) := by decide +kernel
theorem dX4_findPerson_1 : decode cX4_findPerson 1 = .ok (.getfield 9, 3) := by decide +kernel
theorem dX4_findPerson_4 : decode cX4_findPerson 4 = .ok (.invokevirtual 60, 3) := by decide +kernel
theorem dX4_findPerson_7 : decode cX4_findPerson 7 = .ok (.ifCond .ne 9, 3) := by decide +kernel
theorem dX4_findPerson_10 : decode cX4_findPerson 10 = .ok (.aload_n 0, 1) := by decide +kernel
theorem dX4_findPerson_11 : decode cX4_findPerson 11 = .ok (.iconst 1, 1) := by decide +kernel
theorem dX4_findPerson_12 : decode cX4_findPerson 12 = .ok (.invokevirtual 48, 3) := by decide +kernel
theorem dX4_findPerson_15 : decode cX4_findPerson 15 = .ok (.ireturn, 1) := by decide +kernel
theorem dX4_findPerson_16 : decode cX4_findPerson 16 = .ok (.aload_n 0, 1) := by decide +kernel
theorem dX4_findPerson_17 : decode cX4_findPerson 17 = .ok (.aload_n 0, 1) := by decide +kernel
theorem dX4_findPerson_18 : decode cX4_findPerson 18 = .ok (.getfield 15, 3) := by decide +kernel
theorem dX4_findPerson_21 : decode cX4_findPerson 21 = .ok (.aload_n 0, 1) := by decide +kernel
theorem dX4_findPerson_22 : decode cX4_findPerson 22 = .ok (.getfield 9, 3) := by decide +kernel
theorem dX4_findPerson_25 : decode cX4_findPerson 25 = .ok (.invokevirtual 63, 3) := by decide +kernel
theorem dX4_findPerson_28 : decode cX4_findPerson 28 = .ok (.invokevirtual 67, 3) := by decide +kernel
theorem dX4_findPerson_31 : decode cX4_findPerson 31 = .ok (.putfield 54, 3) := by decide +kernel
theorem dX4_findPerson_34 : decode cX4_findPerson 34 = .ok (.aload_n 0, 1) := by decide +kernel
theorem dX4_findPerson_35 : decode cX4_findPerson 35 = .ok (.getfield 54, 3) := by decide +kernel
theorem dX4_findPerson_38 : decode cX4_findPerson 38 = .ok (.iconst (-1), 1) := by decide +kernel
theorem dX4_findPerson_39 : decode cX4_findPerson 39 = .ok (.if_icmp .ne 11, 3) := by decide +kernel
theorem dX4_findPerson_42 : decode cX4_findPerson 42 = .ok (.aload_n 0, 1) := by decide +kernel
theorem dX4_findPerson_43 : decode cX4_findPerson 43 = .ok (.iconst 2, 1) := by decide +kernel
theorem dX4_findPerson_44 : decode cX4_findPerson 44 = .ok (.invokevirtual 48, 3) := by decide +kernel
theorem dX4_findPerson_47 : decode cX4_findPerson 47 = .ok (.ifCond .eq 7, 3) := by decide +kernel
theorem dX4_findPerson_50 : decode cX4_findPerson 50 = .ok (.iconst 1, 1) := by decide +kernel
theorem dX4_findPerson_51 : decode cX4_findPerson 51 = .ok (.goto 4, 3) := by decide +kernel
theorem dX4_findPerson_54 : decode cX4_findPerson 54 = .ok (.iconst 0, 1) := by decide +kernel
theorem dX4_findPerson_55 : decode cX4_findPerson 55 = .ok (.ireturn, 1) := by decide +kernel
def g_X4_findPerson_c5 (h : zH) (t0 : Nat) : Option (Bool × zH) := (g_X8_isName h (zR t0 0)).bind fun v_1 => if (zb v_1) = 0 then ((g_X4_fail_c5 h t0 1).bind fun v_9 => some (v_9.1, v_9.2)) else ((g_X8_packedWord h (zR t0 0)).bind fun v_3 => (g_X5_numberOf h (zR t0 1) v_3).bind fun v_4 => zlet (zpi h t0 2 v_4) fun h_5 => if (h_5.1 t0 2) = (-1) then ((g_X4_fail_c5 h_5 t0 2).bind fun v_7 => if (zb v_7.1) = 0 then (some (false, v_7.2)) else (some (true, v_7.2))) else (some (true, h_5)))
set_option maxRecDepth 100000 in
set_option maxHeartbeats 4000000 in
theorem b_X4_findPerson_c5 {K : zK} {G : zG} (hK : zC K G cX4_findPerson RX4 1 1 23 (some .boolean)) {h : zH} {t0 : Nat} (ht0 : zT t0 = (5, 0)) {r : Bool × zH} (hE : zE K G (some (.int (zb r.1))) r.2) (hg : g_X4_findPerson_c5 h t0 = some r) : zW K G 1 0 [(0, .ref (G.2.2.2 t0))] [] h := by
  rw [g_X4_findPerson_c5] at hg
  obtain ⟨v_1, qv_1, hg⟩ := zbind_some hg
  refine z_aload_n (pc := 0) hK 0 dX4_findPerson_0 rfl (z_getR (pc := 1) hK f_X4_9_5 ht0 dX4_findPerson_1 (z_callVi (pc := 4) hK [] (m_X8_isName (zC_D hK) (zt_5_0 ht0) qv_1) sv_X8_isName q_728 (zt_5_0 ht0) rfl [] rfl (Nat.le_of_ble_eq_true rfl) ⟨by decide, by decide⟩ dX4_findPerson_4 (z_if_ne (pc := 7) hK 16 dX4_findPerson_7 (by decide) (fun c_2 => ?_) (fun c_2 => ?_))))
  · rw [if_neg c_2] at hg
    obtain ⟨v_3, qv_3, hg⟩ := zbind_some hg
    obtain ⟨v_4, qv_4, hg⟩ := zbind_some hg
    obtain ⟨h_5, eh_5, hg⟩ := zlet_some hg
    refine z_aload_n (pc := 16) hK 0 dX4_findPerson_16 rfl (z_aload_n (pc := 17) hK 0 dX4_findPerson_17 rfl (z_getR (pc := 18) hK f_X4_15_5 ht0 dX4_findPerson_18 (z_aload_n (pc := 21) hK 0 dX4_findPerson_21 rfl (z_getR (pc := 22) hK f_X4_9_5 ht0 dX4_findPerson_22 (z_callVl (pc := 25) hK [] (m_X8_packedWord (zC_D hK) (zt_5_0 ht0) qv_3) sv_X8_packedWord q_729 (zt_5_0 ht0) rfl [.ref (G.2.2.2 (zR t0 1)), .ref (G.2.2.2 t0)] rfl (Nat.le_of_ble_eq_true rfl) ⟨by decide, by decide⟩ dX4_findPerson_25 (z_callVi (pc := 28) hK [.long v_3] (m_X5_numberOf (zC_D hK) (zt_5_1 ht0) qv_4) sv_X5_numberOf q_730 (zt_5_1 ht0) rfl [.ref (G.2.2.2 t0)] rfl (Nat.le_of_ble_eq_true rfl) ⟨by decide, by decide⟩ dX4_findPerson_28 (z_putI (pc := 31) hK f_X4_54_5 fp_5_2 ht0 dX4_findPerson_31 (z_nameH eh_5 (z_aload_n (pc := 34) hK 0 dX4_findPerson_34 rfl (z_getI (pc := 35) hK f_X4_54_5 ht0 dX4_findPerson_35 (z_iconst (pc := 38) hK dX4_findPerson_38 zc_im1 (z_icmp_ne (pc := 39) hK 50 dX4_findPerson_39 (by decide) (fun c_6 => ?_) (fun c_6 => ?_)))))))))))))
    · rw [if_neg c_6] at hg
      exact z_iconst (pc := 50) hK dX4_findPerson_50 zc_i1 (z_goto (pc := 51) hK 55 dX4_findPerson_51 (by decide) (z_zretE (pc := 55) hK rfl hE hg dX4_findPerson_55))
    · rw [if_pos c_6] at hg
      obtain ⟨v_7, qv_7, hg⟩ := zbind_some hg
      refine z_aload_n (pc := 42) hK 0 dX4_findPerson_42 rfl (z_iconst (pc := 43) hK dX4_findPerson_43 zc_i2 (z_callUi (pc := 44) hK [.int 2] (m_X4_fail_c5 (zC_D hK) ht0 qv_7) su_X4_fail_c5_X4 q_706 ht0 rfl [] rfl (Nat.le_of_ble_eq_true rfl) ⟨by decide, by decide⟩ dX4_findPerson_44 (z_if_eq (pc := 47) hK 54 dX4_findPerson_47 (by decide) (fun c_8 => ?_) (fun c_8 => ?_))))
      · rw [if_pos c_8] at hg
        exact z_iconst (pc := 54) hK dX4_findPerson_54 zc_i0 (z_zretE (pc := 55) hK rfl hE hg dX4_findPerson_55)
      · rw [if_neg c_8] at hg
        exact z_iconst (pc := 50) hK dX4_findPerson_50 zc_i1 (z_goto (pc := 51) hK 55 dX4_findPerson_51 (by decide) (z_zretE (pc := 55) hK rfl hE hg dX4_findPerson_55))
  · rw [if_pos c_2] at hg
    obtain ⟨v_9, qv_9, hg⟩ := zbind_some hg
    exact z_aload_n (pc := 10) hK 0 dX4_findPerson_10 rfl (z_iconst (pc := 11) hK dX4_findPerson_11 zc_i1 (z_callUi (pc := 12) hK [.int 1] (m_X4_fail_c5 (zC_D hK) ht0 qv_9) su_X4_fail_c5_X4 q_706 ht0 rfl [] rfl (Nat.le_of_ble_eq_true rfl) ⟨by decide, by decide⟩ dX4_findPerson_12 (z_zretE (pc := 15) hK rfl hE hg dX4_findPerson_15)))
theorem m_X4_findPerson_c5 {l : Launch} {G : zG} (hG : zD G) {h : zH} {t0 : Nat} (ht0 : zT t0 = (5, 0)) {r : Bool × zH} (hg : g_X4_findPerson_c5 h t0 = some r) : zM l G yX4_findPerson cX4_findPerson 1 (some .boolean) 1 23 [.ref (G.2.2.2 t0)] h (some (.int (zb r.1))) r.2 :=
  zM_of hG pn_X4 (Nat.le_of_ble_eq_true rfl) (fun K _ hK hE => b_X4_findPerson_c5 hK ht0 hE hg)
theorem dX4_findOther_0 : decode cX4_findOther 0 = .ok (.aload_n 0, 1) := by decide +kernel
theorem dX4_findOther_1 : decode cX4_findOther 1 = .ok (.invokevirtual 73, 3) := by decide +kernel
theorem dX4_findOther_4 : decode cX4_findOther 4 = .ok (.ifCond .eq 23, 3) := by decide +kernel
theorem dX4_findOther_7 : decode cX4_findOther 7 = .ok (.aload_n 0, 1) := by decide +kernel
theorem dX4_findOther_8 : decode cX4_findOther 8 = .ok (.getfield 54, 3) := by decide +kernel
theorem dX4_findOther_11 : decode cX4_findOther 11 = .ok (.iload_n 1, 1) := by decide +kernel
theorem dX4_findOther_12 : decode cX4_findOther 12 = .ok (.if_icmp .ne 11, 3) := by decide +kernel
theorem dX4_findOther_15 : decode cX4_findOther 15 = .ok (.aload_n 0, 1) := by decide +kernel
theorem dX4_findOther_16 : decode cX4_findOther 16 = .ok (.iconst 3, 1) := by decide +kernel
theorem dX4_findOther_17 : decode cX4_findOther 17 = .ok (.invokevirtual 48, 3) := by decide +kernel
theorem dX4_findOther_20 : decode cX4_findOther 20 = .ok (.ifCond .eq 7, 3) := by decide +kernel
theorem dX4_findOther_23 : decode cX4_findOther 23 = .ok (.iconst 1, 1) := by decide +kernel
theorem dX4_findOther_24 : decode cX4_findOther 24 = .ok (.goto 4, 3) := by decide +kernel
theorem dX4_findOther_27 : decode cX4_findOther 27 = .ok (.iconst 0, 1) := by decide +kernel
theorem dX4_findOther_28 : decode cX4_findOther 28 = .ok (.ireturn, 1) := by decide +kernel
def g_X4_findOther_c5 (h : zH) (t0 : Nat) (x1 : Int32) : Option (Bool × zH) := (g_X4_findPerson_c5 h t0).bind fun v_1 => if (zb v_1.1) = 0 then (some (false, v_1.2)) else (if (v_1.2.1 t0 2) = x1 then ((g_X4_fail_c5 v_1.2 t0 3).bind fun v_4 => if (zb v_4.1) = 0 then (some (false, v_4.2)) else (some (true, v_4.2))) else (some (true, v_1.2)))
set_option maxRecDepth 100000 in
set_option maxHeartbeats 4000000 in
theorem b_X4_findOther_c5 {K : zK} {G : zG} (hK : zC K G cX4_findOther RX4 2 2 43 (some .boolean)) {h : zH} {t0 : Nat} {x1 : Int32} (ht0 : zT t0 = (5, 0)) {r : Bool × zH} (hE : zE K G (some (.int (zb r.1))) r.2) (hg : g_X4_findOther_c5 h t0 x1 = some r) : zW K G 2 0 [(0, .ref (G.2.2.2 t0)), (1, .int x1)] [] h := by
  rw [g_X4_findOther_c5] at hg
  obtain ⟨v_1, qv_1, hg⟩ := zbind_some hg
  refine z_aload_n (pc := 0) hK 0 dX4_findOther_0 rfl (z_callUi (pc := 1) hK [] (m_X4_findPerson_c5 (zC_D hK) ht0 qv_1) su_X4_findPerson_c5_X4 q_737 ht0 rfl [] rfl (Nat.le_of_ble_eq_true rfl) ⟨by decide, by decide⟩ dX4_findOther_1 (z_if_eq (pc := 4) hK 27 dX4_findOther_4 (by decide) (fun c_2 => ?_) (fun c_2 => ?_)))
  · rw [if_pos c_2] at hg
    exact z_iconst (pc := 27) hK dX4_findOther_27 zc_i0 (z_zretE (pc := 28) hK rfl hE hg dX4_findOther_28)
  · rw [if_neg c_2] at hg
    refine z_aload_n (pc := 7) hK 0 dX4_findOther_7 rfl (z_getI (pc := 8) hK f_X4_54_5 ht0 dX4_findOther_8 (z_iload_n (pc := 11) hK 1 dX4_findOther_11 rfl (z_icmp_ne (pc := 12) hK 23 dX4_findOther_12 (by decide) (fun c_3 => ?_) (fun c_3 => ?_))))
    · rw [if_neg c_3] at hg
      exact z_iconst (pc := 23) hK dX4_findOther_23 zc_i1 (z_goto (pc := 24) hK 28 dX4_findOther_24 (by decide) (z_zretE (pc := 28) hK rfl hE hg dX4_findOther_28))
    · rw [if_pos c_3] at hg
      obtain ⟨v_4, qv_4, hg⟩ := zbind_some hg
      refine z_aload_n (pc := 15) hK 0 dX4_findOther_15 rfl (z_iconst (pc := 16) hK dX4_findOther_16 zc_i3 (z_callUi (pc := 17) hK [.int 3] (m_X4_fail_c5 (zC_D hK) ht0 qv_4) su_X4_fail_c5_X4 q_706 ht0 rfl [] rfl (Nat.le_of_ble_eq_true rfl) ⟨by decide, by decide⟩ dX4_findOther_17 (z_if_eq (pc := 20) hK 27 dX4_findOther_20 (by decide) (fun c_5 => ?_) (fun c_5 => ?_))))
      · rw [if_pos c_5] at hg
        exact z_iconst (pc := 27) hK dX4_findOther_27 zc_i0 (z_zretE (pc := 28) hK rfl hE hg dX4_findOther_28)
      · rw [if_neg c_5] at hg
        exact z_iconst (pc := 23) hK dX4_findOther_23 zc_i1 (z_goto (pc := 24) hK 28 dX4_findOther_24 (by decide) (z_zretE (pc := 28) hK rfl hE hg dX4_findOther_28))
theorem m_X4_findOther_c5 {l : Launch} {G : zG} (hG : zD G) {h : zH} {t0 : Nat} {x1 : Int32} (ht0 : zT t0 = (5, 0)) {r : Bool × zH} (hg : g_X4_findOther_c5 h t0 x1 = some r) : zM l G yX4_findOther cX4_findOther 2 (some .boolean) 2 43 [.ref (G.2.2.2 t0), .int x1] h (some (.int (zb r.1))) r.2 :=
  zM_of hG pn_X4 (Nat.le_of_ble_eq_true rfl) (fun K _ hK hE => b_X4_findOther_c5 hK ht0 hE hg)
theorem dX6_readHeir_0 : decode cX6_readHeir 0 = .ok (.aload_n 0, 1) := by decide +kernel
theorem dX6_readHeir_1 : decode cX6_readHeir 1 = .ok (.getfield 38, 3) := by decide +kernel
theorem dX6_readHeir_4 : decode cX6_readHeir 4 = .ok (.invokevirtual 79, 3) := by decide +kernel
theorem dX6_readHeir_7 : decode cX6_readHeir 7 = .ok (.aload_n 0, 1) := by decide +kernel
theorem dX6_readHeir_8 : decode cX6_readHeir 8 = .ok (.invokevirtual 107, 3) := by decide +kernel
theorem dX6_readHeir_11 : decode cX6_readHeir 11 = .ok (.ifCond .ne 5, 3) := by decide +kernel
theorem dX6_readHeir_14 : decode cX6_readHeir 14 = .ok (.iconst 0, 1) := by decide +kernel
theorem dX6_readHeir_15 : decode cX6_readHeir 15 = .ok (.ireturn, 1) := by decide +kernel
theorem dX6_readHeir_16 : decode cX6_readHeir 16 = .ok (.aload_n 0, 1) := by decide +kernel
theorem dX6_readHeir_17 : decode cX6_readHeir 17 = .ok (.getfield 100, 3) := by decide +kernel
theorem dX6_readHeir_20 : decode cX6_readHeir 20 = .ok (.istore_n 1, 1) := by decide +kernel
theorem dX6_readHeir_21 : decode cX6_readHeir 21 = .ok (.aload_n 0, 1) := by decide +kernel
theorem dX6_readHeir_22 : decode cX6_readHeir 22 = .ok (.getfield 26, 3) := by decide +kernel
theorem dX6_readHeir_25 : decode cX6_readHeir 25 = .ok (.getfield 117, 3) := by decide +kernel
theorem dX6_readHeir_28 : decode cX6_readHeir 28 = .ok (.iload_n 1, 1) := by decide +kernel
theorem dX6_readHeir_29 : decode cX6_readHeir 29 = .ok (.iaload, 1) := by decide +kernel
theorem dX6_readHeir_30 : decode cX6_readHeir 30 = .ok (.iconst (-1), 1) := by decide +kernel
theorem dX6_readHeir_31 : decode cX6_readHeir 31 = .ok (.if_icmp .eq 9, 3) := by decide +kernel
theorem dX6_readHeir_34 : decode cX6_readHeir 34 = .ok (.aload_n 0, 1) := by decide +kernel
theorem dX6_readHeir_35 : decode cX6_readHeir 35 = .ok (.iconst 3, 1) := by decide +kernel
theorem dX6_readHeir_36 : decode cX6_readHeir 36 = .ok (.invokevirtual 72, 3) := by decide +kernel
theorem dX6_readHeir_39 : decode cX6_readHeir 39 = .ok (.ireturn, 1) := by decide +kernel
theorem dX6_readHeir_40 : decode cX6_readHeir 40 = .ok (.aload_n 0, 1) := by decide +kernel
theorem dX6_readHeir_41 : decode cX6_readHeir 41 = .ok (.getfield 38, 3) := by decide +kernel
theorem dX6_readHeir_44 : decode cX6_readHeir 44 = .ok (.invokevirtual 79, 3) := by decide +kernel
theorem dX6_readHeir_47 : decode cX6_readHeir 47 = .ok (.aload_n 0, 1) := by decide +kernel
theorem dX6_readHeir_48 : decode cX6_readHeir 48 = .ok (.iload_n 1, 1) := by decide +kernel
theorem dX6_readHeir_49 : decode cX6_readHeir 49 = .ok (.invokevirtual 110, 3) := by decide +kernel
theorem dX6_readHeir_52 : decode cX6_readHeir 52 = .ok (.ifCond .ne 5, 3) := by decide +kernel
theorem dX6_readHeir_55 : decode cX6_readHeir 55 = .ok (.iconst 0, 1) := by decide +kernel
theorem dX6_readHeir_56 : decode cX6_readHeir 56 = .ok (.ireturn, 1) := by decide +kernel
theorem dX6_readHeir_57 : decode cX6_readHeir 57 = .ok (.aload_n 0, 1) := by decide +kernel
theorem dX6_readHeir_58 : decode cX6_readHeir 58 = .ok (.getfield 26, 3) := by decide +kernel
theorem dX6_readHeir_61 : decode cX6_readHeir 61 = .ok (.getfield 117, 3) := by decide +kernel
theorem dX6_readHeir_64 : decode cX6_readHeir 64 = .ok (.iload_n 1, 1) := by decide +kernel
theorem dX6_readHeir_65 : decode cX6_readHeir 65 = .ok (.aload_n 0, 1) := by decide +kernel
theorem dX6_readHeir_66 : decode cX6_readHeir 66 = .ok (.getfield 100, 3) := by decide +kernel
theorem dX6_readHeir_69 : decode cX6_readHeir 69 = .ok (.iastore, 1) := by decide +kernel
theorem dX6_readHeir_70 : decode cX6_readHeir 70 = .ok (.aload_n 0, 1) := by decide +kernel
theorem dX6_readHeir_71 : decode cX6_readHeir 71 = .ok (.getfield 38, 3) := by decide +kernel
theorem dX6_readHeir_74 : decode cX6_readHeir 74 = .ok (.invokevirtual 79, 3) := by decide +kernel
theorem dX6_readHeir_77 : decode cX6_readHeir 77 = .ok (.iconst 1, 1) := by decide +kernel
theorem dX6_readHeir_78 : decode cX6_readHeir 78 = .ok (.ireturn, 1) := by decide +kernel
def g_X6_readHeir (h : zH) (t0 : Nat) : Option (Bool × zH) := (g_X8_lookAtNext h (zR t0 0)).bind fun v_1 => (g_X4_findPerson_c5 v_1 t0).bind fun v_2 => if (zb v_2.1) = 0 then (some (false, v_2.2)) else (zgu (zin (v_2.2.1 t0 2) 7) <| if (v_2.2.1 (zR (zR t0 1) 4) (zx (v_2.2.1 t0 2))) = (-1) then ((g_X8_lookAtNext v_2.2 (zR t0 0)).bind fun v_6 => (g_X4_findOther_c5 v_6 t0 (v_2.2.1 t0 2)).bind fun v_7 => if (zb v_7.1) = 0 then (some (false, v_7.2)) else (zgu (zin (v_2.2.1 t0 2) 7) <| zlet (zpi v_7.2 (zR (zR t0 1) 4) (zx (v_2.2.1 t0 2)) (v_7.2.1 t0 2)) fun h_10 => (g_X8_lookAtNext h_10 (zR t0 0)).bind fun v_11 => some (true, v_11))) else ((g_X4_fail_c5 v_2.2 t0 3).bind fun v_12 => some (v_12.1, v_12.2)))
set_option maxRecDepth 100000 in
set_option maxHeartbeats 4000000 in
theorem b_X6_readHeir {K : zK} {G : zG} (hK : zC K G cX6_readHeir RX6 2 6 130 (some .boolean)) {h : zH} {t0 : Nat} (ht0 : zT t0 = (5, 0)) {r : Bool × zH} (hE : zE K G (some (.int (zb r.1))) r.2) (hg : g_X6_readHeir h t0 = some r) : zW K G 2 0 [(0, .ref (G.2.2.2 t0))] [] h := by
  rw [g_X6_readHeir] at hg
  obtain ⟨v_1, qv_1, hg⟩ := zbind_some hg
  obtain ⟨v_2, qv_2, hg⟩ := zbind_some hg
  refine z_aload_n (pc := 0) hK 0 dX6_readHeir_0 rfl (z_getR (pc := 1) hK f_X6_38_5 ht0 dX6_readHeir_1 (z_callVv (pc := 4) hK [] (m_X8_lookAtNext (zC_D hK) (zt_5_0 ht0) qv_1) sv_X8_lookAtNext q_686 (zt_5_0 ht0) rfl [] rfl (Nat.le_of_ble_eq_true rfl) ⟨by decide, by decide⟩ dX6_readHeir_4 (z_aload_n (pc := 7) hK 0 dX6_readHeir_7 rfl (z_callUi (pc := 8) hK [] (m_X4_findPerson_c5 (zC_D hK) ht0 qv_2) su_X4_findPerson_c5_X6 q_722 ht0 rfl [] rfl (Nat.le_of_ble_eq_true rfl) ⟨by decide, by decide⟩ dX6_readHeir_8 (z_if_ne (pc := 11) hK 16 dX6_readHeir_11 (by decide) (fun c_3 => ?_) (fun c_3 => ?_))))))
  · rw [if_neg c_3] at hg
    obtain ⟨c_4, hg⟩ := zgu_some hg
    refine z_aload_n (pc := 16) hK 0 dX6_readHeir_16 rfl (z_getI (pc := 17) hK f_X6_100_5 ht0 dX6_readHeir_17 (z_istore_n (pc := 20) hK (lv' := [(1, .int (v_2.2.1 t0 2)), (0, .ref (G.2.2.2 t0))]) dX6_readHeir_20 (by decide) rfl (z_aload_n (pc := 21) hK 1 dX6_readHeir_21 rfl (z_getR (pc := 22) hK f_X6_26_5 ht0 dX6_readHeir_22 (z_getR (pc := 25) hK f_X6_117_4 (zt_5_1 ht0) dX6_readHeir_25 (z_iload_n (pc := 28) hK 0 dX6_readHeir_28 rfl (z_iald (pc := 29) hK (zt_4_4 (zt_5_1 ht0)) c_4 dX6_readHeir_29 (z_iconst (pc := 30) hK dX6_readHeir_30 zc_im1 (z_icmp_eq (pc := 31) hK 40 dX6_readHeir_31 (by decide) (fun c_5 => ?_) (fun c_5 => ?_))))))))))
    · rw [if_pos c_5] at hg
      obtain ⟨v_6, qv_6, hg⟩ := zbind_some hg
      obtain ⟨v_7, qv_7, hg⟩ := zbind_some hg
      refine z_aload_n (pc := 40) hK 1 dX6_readHeir_40 rfl (z_getR (pc := 41) hK f_X6_38_5 ht0 dX6_readHeir_41 (z_callVv (pc := 44) hK [] (m_X8_lookAtNext (zC_D hK) (zt_5_0 ht0) qv_6) sv_X8_lookAtNext q_686 (zt_5_0 ht0) rfl [] rfl (Nat.le_of_ble_eq_true rfl) ⟨by decide, by decide⟩ dX6_readHeir_44 (z_aload_n (pc := 47) hK 1 dX6_readHeir_47 rfl (z_iload_n (pc := 48) hK 0 dX6_readHeir_48 rfl (z_callUi (pc := 49) hK [.int (v_2.2.1 t0 2)] (m_X4_findOther_c5 (zC_D hK) ht0 qv_7) su_X4_findOther_c5_X6 q_731 ht0 rfl [] rfl (Nat.le_of_ble_eq_true rfl) ⟨by decide, by decide⟩ dX6_readHeir_49 (z_if_ne (pc := 52) hK 57 dX6_readHeir_52 (by decide) (fun c_8 => ?_) (fun c_8 => ?_)))))))
      · rw [if_neg c_8] at hg
        obtain ⟨c_9, hg⟩ := zgu_some hg
        obtain ⟨h_10, eh_10, hg⟩ := zlet_some hg
        obtain ⟨v_11, qv_11, hg⟩ := zbind_some hg
        exact z_aload_n (pc := 57) hK 1 dX6_readHeir_57 rfl (z_getR (pc := 58) hK f_X6_26_5 ht0 dX6_readHeir_58 (z_getR (pc := 61) hK f_X6_117_4 (zt_5_1 ht0) dX6_readHeir_61 (z_iload_n (pc := 64) hK 0 dX6_readHeir_64 rfl (z_aload_n (pc := 65) hK 1 dX6_readHeir_65 rfl (z_getI (pc := 66) hK f_X6_100_5 ht0 dX6_readHeir_66 (z_iast (pc := 69) hK (zt_4_4 (zt_5_1 ht0)) c_9 dX6_readHeir_69 (z_nameH eh_10 (z_aload_n (pc := 70) hK 1 dX6_readHeir_70 rfl (z_getR (pc := 71) hK f_X6_38_5 ht0 dX6_readHeir_71 (z_callVv (pc := 74) hK [] (m_X8_lookAtNext (zC_D hK) (zt_5_0 ht0) qv_11) sv_X8_lookAtNext q_686 (zt_5_0 ht0) rfl [] rfl (Nat.le_of_ble_eq_true rfl) ⟨by decide, by decide⟩ dX6_readHeir_74 (z_iconst (pc := 77) hK dX6_readHeir_77 zc_i1 (z_zretE (pc := 78) hK rfl hE hg dX6_readHeir_78))))))))))))
      · rw [if_pos c_8] at hg
        exact z_iconst (pc := 55) hK dX6_readHeir_55 zc_i0 (z_zretE (pc := 56) hK rfl hE hg dX6_readHeir_56)
    · rw [if_neg c_5] at hg
      obtain ⟨v_12, qv_12, hg⟩ := zbind_some hg
      exact z_aload_n (pc := 34) hK 1 dX6_readHeir_34 rfl (z_iconst (pc := 35) hK dX6_readHeir_35 zc_i3 (z_callUi (pc := 36) hK [.int 3] (m_X4_fail_c5 (zC_D hK) ht0 qv_12) su_X4_fail_c5_X6 q_680 ht0 rfl [] rfl (Nat.le_of_ble_eq_true rfl) ⟨by decide, by decide⟩ dX6_readHeir_36 (z_zretE (pc := 39) hK rfl hE hg dX6_readHeir_39)))
  · rw [if_pos c_3] at hg
    exact z_iconst (pc := 14) hK dX6_readHeir_14 zc_i0 (z_zretE (pc := 15) hK rfl hE hg dX6_readHeir_15)
theorem m_X6_readHeir {l : Launch} {G : zG} (hG : zD G) {h : zH} {t0 : Nat} (ht0 : zT t0 = (5, 0)) {r : Bool × zH} (hg : g_X6_readHeir h t0 = some r) : zM l G yX6_readHeir cX6_readHeir 2 (some .boolean) 6 130 [.ref (G.2.2.2 t0)] h (some (.int (zb r.1))) r.2 :=
  zM_of hG pn_X6 (Nat.le_of_ble_eq_true rfl) (fun K _ hK hE => b_X6_readHeir hK ht0 hE hg)
theorem dX6_readGrudge_0 : decode cX6_readGrudge 0 = .ok (.aload_n 0, 1) := by decide +kernel
theorem dX6_readGrudge_1 : decode cX6_readGrudge 1 = .ok (.getfield 38, 3) := by decide +kernel
theorem dX6_readGrudge_4 : decode cX6_readGrudge 4 = .ok (.invokevirtual 79, 3) := by decide +kernel
theorem dX6_readGrudge_7 : decode cX6_readGrudge 7 = .ok (.aload_n 0, 1) := by decide +kernel
theorem dX6_readGrudge_8 : decode cX6_readGrudge 8 = .ok (.invokevirtual 107, 3) := by decide +kernel
theorem dX6_readGrudge_11 : decode cX6_readGrudge 11 = .ok (.ifCond .ne 5, 3) := by decide +kernel
theorem dX6_readGrudge_14 : decode cX6_readGrudge 14 = .ok (.iconst 0, 1) := by decide +kernel
theorem dX6_readGrudge_15 : decode cX6_readGrudge 15 = .ok (.ireturn, 1) := by decide +kernel
theorem dX6_readGrudge_16 : decode cX6_readGrudge 16 = .ok (.aload_n 0, 1) := by decide +kernel
theorem dX6_readGrudge_17 : decode cX6_readGrudge 17 = .ok (.getfield 100, 3) := by decide +kernel
theorem dX6_readGrudge_20 : decode cX6_readGrudge 20 = .ok (.istore_n 1, 1) := by decide +kernel
theorem dX6_readGrudge_21 : decode cX6_readGrudge 21 = .ok (.aload_n 0, 1) := by decide +kernel
theorem dX6_readGrudge_22 : decode cX6_readGrudge 22 = .ok (.getfield 38, 3) := by decide +kernel
theorem dX6_readGrudge_25 : decode cX6_readGrudge 25 = .ok (.invokevirtual 79, 3) := by decide +kernel
theorem dX6_readGrudge_28 : decode cX6_readGrudge 28 = .ok (.aload_n 0, 1) := by decide +kernel
theorem dX6_readGrudge_29 : decode cX6_readGrudge 29 = .ok (.iload_n 1, 1) := by decide +kernel
theorem dX6_readGrudge_30 : decode cX6_readGrudge 30 = .ok (.invokevirtual 110, 3) := by decide +kernel
theorem dX6_readGrudge_33 : decode cX6_readGrudge 33 = .ok (.ifCond .ne 5, 3) := by decide +kernel
theorem dX6_readGrudge_36 : decode cX6_readGrudge 36 = .ok (.iconst 0, 1) := by decide +kernel
theorem dX6_readGrudge_37 : decode cX6_readGrudge 37 = .ok (.ireturn, 1) := by decide +kernel
theorem dX6_readGrudge_38 : decode cX6_readGrudge 38 = .ok (.iload_n 1, 1) := by decide +kernel
theorem dX6_readGrudge_39 : decode cX6_readGrudge 39 = .ok (.bipush 7, 2) := by decide +kernel
theorem dX6_readGrudge_41 : decode cX6_readGrudge 41 = .ok (.imul, 1) := by decide +kernel
theorem dX6_readGrudge_42 : decode cX6_readGrudge 42 = .ok (.aload_n 0, 1) := by decide +kernel
theorem dX6_readGrudge_43 : decode cX6_readGrudge 43 = .ok (.getfield 100, 3) := by decide +kernel
theorem dX6_readGrudge_46 : decode cX6_readGrudge 46 = .ok (.iadd, 1) := by decide +kernel
theorem dX6_readGrudge_47 : decode cX6_readGrudge 47 = .ok (.istore_n 2, 1) := by decide +kernel
theorem dX6_readGrudge_48 : decode cX6_readGrudge 48 = .ok (.aload_n 0, 1) := by decide +kernel
theorem dX6_readGrudge_49 : decode cX6_readGrudge 49 = .ok (.getfield 26, 3) := by decide +kernel
theorem dX6_readGrudge_52 : decode cX6_readGrudge 52 = .ok (.getfield 113, 3) := by decide +kernel
theorem dX6_readGrudge_55 : decode cX6_readGrudge 55 = .ok (.iload_n 2, 1) := by decide +kernel
theorem dX6_readGrudge_56 : decode cX6_readGrudge 56 = .ok (.iaload, 1) := by decide +kernel
theorem dX6_readGrudge_57 : decode cX6_readGrudge 57 = .ok (.iconst (-1), 1) := by decide +kernel
theorem dX6_readGrudge_58 : decode cX6_readGrudge 58 = .ok (.if_icmp .eq 9, 3) := by decide +kernel
theorem dX6_readGrudge_61 : decode cX6_readGrudge 61 = .ok (.aload_n 0, 1) := by decide +kernel
theorem dX6_readGrudge_62 : decode cX6_readGrudge 62 = .ok (.iconst 3, 1) := by decide +kernel
theorem dX6_readGrudge_63 : decode cX6_readGrudge 63 = .ok (.invokevirtual 72, 3) := by decide +kernel
theorem dX6_readGrudge_66 : decode cX6_readGrudge 66 = .ok (.ireturn, 1) := by decide +kernel
theorem dX6_readGrudge_67 : decode cX6_readGrudge 67 = .ok (.aload_n 0, 1) := by decide +kernel
theorem dX6_readGrudge_68 : decode cX6_readGrudge 68 = .ok (.getfield 38, 3) := by decide +kernel
theorem dX6_readGrudge_71 : decode cX6_readGrudge 71 = .ok (.invokevirtual 79, 3) := by decide +kernel
theorem dX6_readGrudge_74 : decode cX6_readGrudge 74 = .ok (.aload_n 0, 1) := by decide +kernel
theorem dX6_readGrudge_75 : decode cX6_readGrudge 75 = .ok (.iconst 0, 1) := by decide +kernel
theorem dX6_readGrudge_76 : decode cX6_readGrudge 76 = .ok (.bipush 9, 2) := by decide +kernel
theorem dX6_readGrudge_78 : decode cX6_readGrudge 78 = .ok (.invokevirtual 96, 3) := by decide +kernel
theorem dX6_readGrudge_81 : decode cX6_readGrudge 81 = .ok (.ifCond .ne 5, 3) := by decide +kernel
theorem dX6_readGrudge_84 : decode cX6_readGrudge 84 = .ok (.iconst 0, 1) := by decide +kernel
theorem dX6_readGrudge_85 : decode cX6_readGrudge 85 = .ok (.ireturn, 1) := by decide +kernel
theorem dX6_readGrudge_86 : decode cX6_readGrudge 86 = .ok (.aload_n 0, 1) := by decide +kernel
theorem dX6_readGrudge_87 : decode cX6_readGrudge 87 = .ok (.getfield 26, 3) := by decide +kernel
theorem dX6_readGrudge_90 : decode cX6_readGrudge 90 = .ok (.getfield 113, 3) := by decide +kernel
theorem dX6_readGrudge_93 : decode cX6_readGrudge 93 = .ok (.iload_n 2, 1) := by decide +kernel
theorem dX6_readGrudge_94 : decode cX6_readGrudge 94 = .ok (.aload_n 0, 1) := by decide +kernel
theorem dX6_readGrudge_95 : decode cX6_readGrudge 95 = .ok (.getfield 100, 3) := by decide +kernel
theorem dX6_readGrudge_98 : decode cX6_readGrudge 98 = .ok (.iastore, 1) := by decide +kernel
theorem dX6_readGrudge_99 : decode cX6_readGrudge 99 = .ok (.iconst 1, 1) := by decide +kernel
theorem dX6_readGrudge_100 : decode cX6_readGrudge 100 = .ok (.ireturn, 1) := by decide +kernel
def g_X6_readGrudge (h : zH) (t0 : Nat) : Option (Bool × zH) := (g_X8_lookAtNext h (zR t0 0)).bind fun v_1 => (g_X4_findPerson_c5 v_1 t0).bind fun v_2 => if (zb v_2.1) = 0 then (some (false, v_2.2)) else ((g_X8_lookAtNext v_2.2 (zR t0 0)).bind fun v_4 => (g_X4_findOther_c5 v_4 t0 (v_2.2.1 t0 2)).bind fun v_5 => if (zb v_5.1) = 0 then (some (false, v_5.2)) else (zlet (((v_2.2.1 t0 2) * 7) + (v_5.2.1 t0 2)) fun v_7 => zgu (zin v_7 49) <| if (v_5.2.1 (zR (zR t0 1) 5) (zx v_7)) = (-1) then ((g_X8_lookAtNext v_5.2 (zR t0 0)).bind fun v_10 => (g_X4_takeNumber_c5 v_10 t0 0 9).bind fun v_11 => if (zb v_11.1) = 0 then (some (false, v_11.2)) else (zgu (zin v_7 49) <| zlet (zpi v_11.2 (zR (zR t0 1) 5) (zx v_7) (v_11.2.1 t0 2)) fun h_14 => some (true, h_14))) else ((g_X4_fail_c5 v_5.2 t0 3).bind fun v_15 => some (v_15.1, v_15.2))))
set_option maxRecDepth 100000 in
set_option maxHeartbeats 4000000 in
theorem b_X6_readGrudge {K : zK} {G : zG} (hK : zC K G cX6_readGrudge RX6 3 7 152 (some .boolean)) {h : zH} {t0 : Nat} (ht0 : zT t0 = (5, 0)) {r : Bool × zH} (hE : zE K G (some (.int (zb r.1))) r.2) (hg : g_X6_readGrudge h t0 = some r) : zW K G 3 0 [(0, .ref (G.2.2.2 t0))] [] h := by
  rw [g_X6_readGrudge] at hg
  obtain ⟨v_1, qv_1, hg⟩ := zbind_some hg
  obtain ⟨v_2, qv_2, hg⟩ := zbind_some hg
  refine z_aload_n (pc := 0) hK 0 dX6_readGrudge_0 rfl (z_getR (pc := 1) hK f_X6_38_5 ht0 dX6_readGrudge_1 (z_callVv (pc := 4) hK [] (m_X8_lookAtNext (zC_D hK) (zt_5_0 ht0) qv_1) sv_X8_lookAtNext q_686 (zt_5_0 ht0) rfl [] rfl (Nat.le_of_ble_eq_true rfl) ⟨by decide, by decide⟩ dX6_readGrudge_4 (z_aload_n (pc := 7) hK 0 dX6_readGrudge_7 rfl (z_callUi (pc := 8) hK [] (m_X4_findPerson_c5 (zC_D hK) ht0 qv_2) su_X4_findPerson_c5_X6 q_722 ht0 rfl [] rfl (Nat.le_of_ble_eq_true rfl) ⟨by decide, by decide⟩ dX6_readGrudge_8 (z_if_ne (pc := 11) hK 16 dX6_readGrudge_11 (by decide) (fun c_3 => ?_) (fun c_3 => ?_))))))
  · rw [if_neg c_3] at hg
    obtain ⟨v_4, qv_4, hg⟩ := zbind_some hg
    obtain ⟨v_5, qv_5, hg⟩ := zbind_some hg
    refine z_aload_n (pc := 16) hK 0 dX6_readGrudge_16 rfl (z_getI (pc := 17) hK f_X6_100_5 ht0 dX6_readGrudge_17 (z_istore_n (pc := 20) hK (lv' := [(1, .int (v_2.2.1 t0 2)), (0, .ref (G.2.2.2 t0))]) dX6_readGrudge_20 (by decide) rfl (z_aload_n (pc := 21) hK 1 dX6_readGrudge_21 rfl (z_getR (pc := 22) hK f_X6_38_5 ht0 dX6_readGrudge_22 (z_callVv (pc := 25) hK [] (m_X8_lookAtNext (zC_D hK) (zt_5_0 ht0) qv_4) sv_X8_lookAtNext q_686 (zt_5_0 ht0) rfl [] rfl (Nat.le_of_ble_eq_true rfl) ⟨by decide, by decide⟩ dX6_readGrudge_25 (z_aload_n (pc := 28) hK 1 dX6_readGrudge_28 rfl (z_iload_n (pc := 29) hK 0 dX6_readGrudge_29 rfl (z_callUi (pc := 30) hK [.int (v_2.2.1 t0 2)] (m_X4_findOther_c5 (zC_D hK) ht0 qv_5) su_X4_findOther_c5_X6 q_731 ht0 rfl [] rfl (Nat.le_of_ble_eq_true rfl) ⟨by decide, by decide⟩ dX6_readGrudge_30 (z_if_ne (pc := 33) hK 38 dX6_readGrudge_33 (by decide) (fun c_6 => ?_) (fun c_6 => ?_))))))))))
    · rw [if_neg c_6] at hg
      obtain ⟨v_7, ev_7, hg⟩ := zlet_some hg
      obtain ⟨c_8, hg⟩ := zgu_some hg
      refine z_iload_n (pc := 38) hK 0 dX6_readGrudge_38 rfl (z_bipush (pc := 39) hK dX6_readGrudge_39 zc_b7 (z_imul (pc := 41) hK dX6_readGrudge_41 (z_aload_n (pc := 42) hK 1 dX6_readGrudge_42 rfl (z_getI (pc := 43) hK f_X6_100_5 ht0 dX6_readGrudge_43 (z_iadd (pc := 46) hK dX6_readGrudge_46 (z_nameI ev_7 (z_istore_n (pc := 47) hK (lv' := [(2, .int v_7), (1, .int (v_2.2.1 t0 2)), (0, .ref (G.2.2.2 t0))]) dX6_readGrudge_47 (by decide) rfl (z_aload_n (pc := 48) hK 2 dX6_readGrudge_48 rfl (z_getR (pc := 49) hK f_X6_26_5 ht0 dX6_readGrudge_49 (z_getR (pc := 52) hK f_X6_113_4 (zt_5_1 ht0) dX6_readGrudge_52 (z_iload_n (pc := 55) hK 0 dX6_readGrudge_55 rfl (z_iald (pc := 56) hK (zt_4_5 (zt_5_1 ht0)) c_8 dX6_readGrudge_56 (z_iconst (pc := 57) hK dX6_readGrudge_57 zc_im1 (z_icmp_eq (pc := 58) hK 67 dX6_readGrudge_58 (by decide) (fun c_9 => ?_) (fun c_9 => ?_)))))))))))))))
      · rw [if_pos c_9] at hg
        obtain ⟨v_10, qv_10, hg⟩ := zbind_some hg
        obtain ⟨v_11, qv_11, hg⟩ := zbind_some hg
        refine z_aload_n (pc := 67) hK 2 dX6_readGrudge_67 rfl (z_getR (pc := 68) hK f_X6_38_5 ht0 dX6_readGrudge_68 (z_callVv (pc := 71) hK [] (m_X8_lookAtNext (zC_D hK) (zt_5_0 ht0) qv_10) sv_X8_lookAtNext q_686 (zt_5_0 ht0) rfl [] rfl (Nat.le_of_ble_eq_true rfl) ⟨by decide, by decide⟩ dX6_readGrudge_71 (z_aload_n (pc := 74) hK 2 dX6_readGrudge_74 rfl (z_iconst (pc := 75) hK dX6_readGrudge_75 zc_i0 (z_bipush (pc := 76) hK dX6_readGrudge_76 zc_b9 (z_callUi (pc := 78) hK [.int 0, .int 9] (m_X4_takeNumber_c5 (zC_D hK) ht0 qv_11) su_X4_takeNumber_c5_X6 q_708 ht0 rfl [] rfl (Nat.le_of_ble_eq_true rfl) ⟨by decide, by decide⟩ dX6_readGrudge_78 (z_if_ne (pc := 81) hK 86 dX6_readGrudge_81 (by decide) (fun c_12 => ?_) (fun c_12 => ?_))))))))
        · rw [if_neg c_12] at hg
          obtain ⟨c_13, hg⟩ := zgu_some hg
          obtain ⟨h_14, eh_14, hg⟩ := zlet_some hg
          exact z_aload_n (pc := 86) hK 2 dX6_readGrudge_86 rfl (z_getR (pc := 87) hK f_X6_26_5 ht0 dX6_readGrudge_87 (z_getR (pc := 90) hK f_X6_113_4 (zt_5_1 ht0) dX6_readGrudge_90 (z_iload_n (pc := 93) hK 0 dX6_readGrudge_93 rfl (z_aload_n (pc := 94) hK 2 dX6_readGrudge_94 rfl (z_getI (pc := 95) hK f_X6_100_5 ht0 dX6_readGrudge_95 (z_iast (pc := 98) hK (zt_4_5 (zt_5_1 ht0)) c_13 dX6_readGrudge_98 (z_nameH eh_14 (z_iconst (pc := 99) hK dX6_readGrudge_99 zc_i1 (z_zretE (pc := 100) hK rfl hE hg dX6_readGrudge_100)))))))))
        · rw [if_pos c_12] at hg
          exact z_iconst (pc := 84) hK dX6_readGrudge_84 zc_i0 (z_zretE (pc := 85) hK rfl hE hg dX6_readGrudge_85)
      · rw [if_neg c_9] at hg
        obtain ⟨v_15, qv_15, hg⟩ := zbind_some hg
        exact z_aload_n (pc := 61) hK 2 dX6_readGrudge_61 rfl (z_iconst (pc := 62) hK dX6_readGrudge_62 zc_i3 (z_callUi (pc := 63) hK [.int 3] (m_X4_fail_c5 (zC_D hK) ht0 qv_15) su_X4_fail_c5_X6 q_680 ht0 rfl [] rfl (Nat.le_of_ble_eq_true rfl) ⟨by decide, by decide⟩ dX6_readGrudge_63 (z_zretE (pc := 66) hK rfl hE hg dX6_readGrudge_66)))
    · rw [if_pos c_6] at hg
      exact z_iconst (pc := 36) hK dX6_readGrudge_36 zc_i0 (z_zretE (pc := 37) hK rfl hE hg dX6_readGrudge_37)
  · rw [if_pos c_3] at hg
    exact z_iconst (pc := 14) hK dX6_readGrudge_14 zc_i0 (z_zretE (pc := 15) hK rfl hE hg dX6_readGrudge_15)
theorem m_X6_readGrudge {l : Launch} {G : zG} (hG : zD G) {h : zH} {t0 : Nat} (ht0 : zT t0 = (5, 0)) {r : Bool × zH} (hg : g_X6_readGrudge h t0 = some r) : zM l G yX6_readGrudge cX6_readGrudge 3 (some .boolean) 7 152 [.ref (G.2.2.2 t0)] h (some (.int (zb r.1))) r.2 :=
  zM_of hG pn_X6 (Nat.le_of_ble_eq_true rfl) (fun K _ hK hE => b_X6_readGrudge hK ht0 hE hg)
theorem dX4_take_0 : decode cX4_take 0 = .ok (.aload_n 0, 1) := by decide +kernel
theorem dX4_take_1 : decode cX4_take 1 = .ok (.getfield 9, 3) := by decide +kernel
theorem dX4_take_4 : decode cX4_take 4 = .ok (.getfield 31, 3) := by decide +kernel
theorem dX4_take_7 : decode cX4_take 7 = .ok (.iload_n 1, 1) := by decide +kernel
theorem dX4_take_8 : decode cX4_take 8 = .ok (.if_icmp .eq 9, 3) := by decide +kernel
theorem dX4_take_11 : decode cX4_take 11 = .ok (.aload_n 0, 1) := by decide +kernel
theorem dX4_take_12 : decode cX4_take 12 = .ok (.iconst 1, 1) := by decide +kernel
theorem dX4_take_13 : decode cX4_take 13 = .ok (.invokevirtual 48, 3) := by decide +kernel
theorem dX4_take_16 : decode cX4_take 16 = .ok (.ireturn, 1) := by decide +kernel
theorem dX4_take_17 : decode cX4_take 17 = .ok (.aload_n 0, 1) := by decide +kernel
theorem dX4_take_18 : decode cX4_take 18 = .ok (.getfield 9, 3) := by decide +kernel
theorem dX4_take_21 : decode cX4_take 21 = .ok (.invokevirtual 51, 3) := by decide +kernel
theorem dX4_take_24 : decode cX4_take 24 = .ok (.iconst 1, 1) := by decide +kernel
theorem dX4_take_25 : decode cX4_take 25 = .ok (.ireturn, 1) := by decide +kernel
def g_X4_take_c5 (h : zH) (t0 : Nat) (x1 : Int32) : Option (Bool × zH) := if (h.1 (zR t0 0) 2) = x1 then ((g_X8_lookAtNext h (zR t0 0)).bind fun v_2 => some (true, v_2)) else ((g_X4_fail_c5 h t0 1).bind fun v_3 => some (v_3.1, v_3.2))
set_option maxRecDepth 100000 in
set_option maxHeartbeats 4000000 in
theorem b_X4_take_c5 {K : zK} {G : zG} (hK : zC K G cX4_take RX4 2 6 130 (some .boolean)) {h : zH} {t0 : Nat} {x1 : Int32} (ht0 : zT t0 = (5, 0)) {r : Bool × zH} (hE : zE K G (some (.int (zb r.1))) r.2) (hg : g_X4_take_c5 h t0 x1 = some r) : zW K G 2 0 [(0, .ref (G.2.2.2 t0)), (1, .int x1)] [] h := by
  rw [g_X4_take_c5] at hg
  refine z_aload_n (pc := 0) hK 0 dX4_take_0 rfl (z_getR (pc := 1) hK f_X4_9_5 ht0 dX4_take_1 (z_getI (pc := 4) hK f_X4_31_7 (zt_5_0 ht0) dX4_take_4 (z_iload_n (pc := 7) hK 1 dX4_take_7 rfl (z_icmp_eq (pc := 8) hK 17 dX4_take_8 (by decide) (fun c_1 => ?_) (fun c_1 => ?_)))))
  · rw [if_pos c_1] at hg
    obtain ⟨v_2, qv_2, hg⟩ := zbind_some hg
    exact z_aload_n (pc := 17) hK 0 dX4_take_17 rfl (z_getR (pc := 18) hK f_X4_9_5 ht0 dX4_take_18 (z_callVv (pc := 21) hK [] (m_X8_lookAtNext (zC_D hK) (zt_5_0 ht0) qv_2) sv_X8_lookAtNext q_707 (zt_5_0 ht0) rfl [] rfl (Nat.le_of_ble_eq_true rfl) ⟨by decide, by decide⟩ dX4_take_21 (z_iconst (pc := 24) hK dX4_take_24 zc_i1 (z_zretE (pc := 25) hK rfl hE hg dX4_take_25))))
  · rw [if_neg c_1] at hg
    obtain ⟨v_3, qv_3, hg⟩ := zbind_some hg
    exact z_aload_n (pc := 11) hK 0 dX4_take_11 rfl (z_iconst (pc := 12) hK dX4_take_12 zc_i1 (z_callUi (pc := 13) hK [.int 1] (m_X4_fail_c5 (zC_D hK) ht0 qv_3) su_X4_fail_c5_X4 q_706 ht0 rfl [] rfl (Nat.le_of_ble_eq_true rfl) ⟨by decide, by decide⟩ dX4_take_13 (z_zretE (pc := 16) hK rfl hE hg dX4_take_16)))
theorem m_X4_take_c5 {l : Launch} {G : zG} (hG : zD G) {h : zH} {t0 : Nat} {x1 : Int32} (ht0 : zT t0 = (5, 0)) {r : Bool × zH} (hg : g_X4_take_c5 h t0 x1 = some r) : zM l G yX4_take cX4_take 2 (some .boolean) 6 130 [.ref (G.2.2.2 t0), .int x1] h (some (.int (zb r.1))) r.2 :=
  zM_of hG pn_X4 (Nat.le_of_ble_eq_true rfl) (fun K _ hK hE => b_X4_take_c5 hK ht0 hE hg)
theorem dX6_readPerson_0 : decode cX6_readPerson 0 = .ok (.aload_n 0, 1) := by decide +kernel
theorem dX6_readPerson_1 : decode cX6_readPerson 1 = .ok (.getfield 26, 3) := by decide +kernel
theorem dX6_readPerson_4 : decode cX6_readPerson 4 = .ok (.getfield 76, 3) := by decide +kernel
theorem dX6_readPerson_7 : decode cX6_readPerson 7 = .ok (.istore_n 1, 1) := by decide +kernel
theorem dX6_readPerson_8 : decode cX6_readPerson 8 = .ok (.iload_n 1, 1) := by decide +kernel
theorem dX6_readPerson_9 : decode cX6_readPerson 9 = .ok (.bipush 7, 2) := by decide +kernel
theorem dX6_readPerson_11 : decode cX6_readPerson 11 = .ok (.if_icmp .lt 9, 3) := by decide +kernel
theorem dX6_readPerson_14 : decode cX6_readPerson 14 = .ok (.aload_n 0, 1) := by decide +kernel
theorem dX6_readPerson_15 : decode cX6_readPerson 15 = .ok (.iconst 5, 1) := by decide +kernel
theorem dX6_readPerson_16 : decode cX6_readPerson 16 = .ok (.invokevirtual 72, 3) := by decide +kernel
theorem dX6_readPerson_19 : decode cX6_readPerson 19 = .ok (.ireturn, 1) := by decide +kernel
theorem dX6_readPerson_20 : decode cX6_readPerson 20 = .ok (.aload_n 0, 1) := by decide +kernel
theorem dX6_readPerson_21 : decode cX6_readPerson 21 = .ok (.getfield 38, 3) := by decide +kernel
theorem dX6_readPerson_24 : decode cX6_readPerson 24 = .ok (.invokevirtual 79, 3) := by decide +kernel
theorem dX6_readPerson_27 : decode cX6_readPerson 27 = .ok (.aload_n 0, 1) := by decide +kernel
theorem dX6_readPerson_28 : decode cX6_readPerson 28 = .ok (.getfield 38, 3) := by decide +kernel
theorem dX6_readPerson_31 : decode cX6_readPerson 31 = .ok (.invokevirtual 82, 3) := by decide +kernel
theorem dX6_readPerson_34 : decode cX6_readPerson 34 = .ok (.ifCond .ne 9, 3) := by decide +kernel
theorem dX6_readPerson_37 : decode cX6_readPerson 37 = .ok (.aload_n 0, 1) := by decide +kernel
theorem dX6_readPerson_38 : decode cX6_readPerson 38 = .ok (.iconst 1, 1) := by decide +kernel
theorem dX6_readPerson_39 : decode cX6_readPerson 39 = .ok (.invokevirtual 72, 3) := by decide +kernel
theorem dX6_readPerson_42 : decode cX6_readPerson 42 = .ok (.ireturn, 1) := by decide +kernel
theorem dX6_readPerson_43 : decode cX6_readPerson 43 = .ok (.aload_n 0, 1) := by decide +kernel
theorem dX6_readPerson_44 : decode cX6_readPerson 44 = .ok (.getfield 38, 3) := by decide +kernel
theorem dX6_readPerson_47 : decode cX6_readPerson 47 = .ok (.invokevirtual 85, 3) := by decide +kernel
theorem dX6_readPerson_50 : decode cX6_readPerson 50 = .ok (.lstore_n 2, 1) := by decide +kernel
theorem dX6_readPerson_51 : decode cX6_readPerson 51 = .ok (.aload_n 0, 1) := by decide +kernel
theorem dX6_readPerson_52 : decode cX6_readPerson 52 = .ok (.getfield 26, 3) := by decide +kernel
theorem dX6_readPerson_55 : decode cX6_readPerson 55 = .ok (.lload_n 2, 1) := by decide +kernel
theorem dX6_readPerson_56 : decode cX6_readPerson 56 = .ok (.invokevirtual 89, 3) := by decide +kernel
theorem dX6_readPerson_59 : decode cX6_readPerson 59 = .ok (.iconst (-1), 1) := by decide +kernel
theorem dX6_readPerson_60 : decode cX6_readPerson 60 = .ok (.if_icmp .eq 9, 3) := by decide +kernel
theorem dX6_readPerson_63 : decode cX6_readPerson 63 = .ok (.aload_n 0, 1) := by decide +kernel
theorem dX6_readPerson_64 : decode cX6_readPerson 64 = .ok (.iconst 3, 1) := by decide +kernel
theorem dX6_readPerson_65 : decode cX6_readPerson 65 = .ok (.invokevirtual 72, 3) := by decide +kernel
theorem dX6_readPerson_68 : decode cX6_readPerson 68 = .ok (.ireturn, 1) := by decide +kernel
theorem dX6_readPerson_69 : decode cX6_readPerson 69 = .ok (.aload_n 0, 1) := by decide +kernel
theorem dX6_readPerson_70 : decode cX6_readPerson 70 = .ok (.getfield 38, 3) := by decide +kernel
theorem dX6_readPerson_73 : decode cX6_readPerson 73 = .ok (.invokevirtual 79, 3) := by decide +kernel
theorem dX6_readPerson_76 : decode cX6_readPerson 76 = .ok (.aload_n 0, 1) := by decide +kernel
theorem dX6_readPerson_77 : decode cX6_readPerson 77 = .ok (.getfield 38, 3) := by decide +kernel
theorem dX6_readPerson_80 : decode cX6_readPerson 80 = .ok (.getfield 42, 3) := by decide +kernel
theorem dX6_readPerson_83 : decode cX6_readPerson 83 = .ok (.bipush 31, 2) := by decide +kernel
theorem dX6_readPerson_85 : decode cX6_readPerson 85 = .ok (.if_icmp .lt 15, 3) := by decide +kernel
theorem dX6_readPerson_88 : decode cX6_readPerson 88 = .ok (.aload_n 0, 1) := by decide +kernel
theorem dX6_readPerson_89 : decode cX6_readPerson 89 = .ok (.getfield 38, 3) := by decide +kernel
theorem dX6_readPerson_92 : decode cX6_readPerson 92 = .ok (.getfield 42, 3) := by decide +kernel
theorem dX6_readPerson_95 : decode cX6_readPerson 95 = .ok (.bipush 34, 2) := by decide +kernel
theorem dX6_readPerson_97 : decode cX6_readPerson 97 = .ok (.if_icmp .le 9, 3) := by decide +kernel
theorem dX6_readPerson_100 : decode cX6_readPerson 100 = .ok (.aload_n 0, 1) := by decide +kernel
theorem dX6_readPerson_101 : decode cX6_readPerson 101 = .ok (.iconst 1, 1) := by decide +kernel
theorem dX6_readPerson_102 : decode cX6_readPerson 102 = .ok (.invokevirtual 72, 3) := by decide +kernel
theorem dX6_readPerson_105 : decode cX6_readPerson 105 = .ok (.ireturn, 1) := by decide +kernel
theorem dX6_readPerson_106 : decode cX6_readPerson 106 = .ok (.aload_n 0, 1) := by decide +kernel
theorem dX6_readPerson_107 : decode cX6_readPerson 107 = .ok (.getfield 38, 3) := by decide +kernel
theorem dX6_readPerson_110 : decode cX6_readPerson 110 = .ok (.getfield 42, 3) := by decide +kernel
theorem dX6_readPerson_113 : decode cX6_readPerson 113 = .ok (.bipush 31, 2) := by decide +kernel
theorem dX6_readPerson_115 : decode cX6_readPerson 115 = .ok (.isub, 1) := by decide +kernel
theorem dX6_readPerson_116 : decode cX6_readPerson 116 = .ok (.istore 4, 2) := by decide +kernel
theorem dX6_readPerson_118 : decode cX6_readPerson 118 = .ok (.aload_n 0, 1) := by decide +kernel
theorem dX6_readPerson_119 : decode cX6_readPerson 119 = .ok (.getfield 38, 3) := by decide +kernel
theorem dX6_readPerson_122 : decode cX6_readPerson 122 = .ok (.invokevirtual 79, 3) := by decide +kernel
theorem dX6_readPerson_125 : decode cX6_readPerson 125 = .ok (.aload_n 0, 1) := by decide +kernel
theorem dX6_readPerson_126 : decode cX6_readPerson 126 = .ok (.bipush 13, 2) := by decide +kernel
theorem dX6_readPerson_128 : decode cX6_readPerson 128 = .ok (.invokevirtual 93, 3) := by decide +kernel
theorem dX6_readPerson_131 : decode cX6_readPerson 131 = .ok (.ifCond .eq 13, 3) := by decide +kernel
theorem dX6_readPerson_134 : decode cX6_readPerson 134 = .ok (.aload_n 0, 1) := by decide +kernel
theorem dX6_readPerson_135 : decode cX6_readPerson 135 = .ok (.iconst 0, 1) := by decide +kernel
theorem dX6_readPerson_136 : decode cX6_readPerson 136 = .ok (.bipush 99, 2) := by decide +kernel
theorem dX6_readPerson_138 : decode cX6_readPerson 138 = .ok (.invokevirtual 96, 3) := by decide +kernel
theorem dX6_readPerson_141 : decode cX6_readPerson 141 = .ok (.ifCond .ne 5, 3) := by decide +kernel
theorem dX6_readPerson_144 : decode cX6_readPerson 144 = .ok (.iconst 0, 1) := by decide +kernel
theorem dX6_readPerson_145 : decode cX6_readPerson 145 = .ok (.ireturn, 1) := by decide +kernel
theorem dX6_readPerson_146 : decode cX6_readPerson 146 = .ok (.aload_n 0, 1) := by decide +kernel
theorem dX6_readPerson_147 : decode cX6_readPerson 147 = .ok (.getfield 100, 3) := by decide +kernel
theorem dX6_readPerson_150 : decode cX6_readPerson 150 = .ok (.istore 5, 2) := by decide +kernel
theorem dX6_readPerson_152 : decode cX6_readPerson 152 = .ok (.aload_n 0, 1) := by decide +kernel
theorem dX6_readPerson_153 : decode cX6_readPerson 153 = .ok (.bipush 14, 2) := by decide +kernel
theorem dX6_readPerson_155 : decode cX6_readPerson 155 = .ok (.invokevirtual 93, 3) := by decide +kernel
theorem dX6_readPerson_158 : decode cX6_readPerson 158 = .ok (.ifCond .eq 13, 3) := by decide +kernel
theorem dX6_readPerson_161 : decode cX6_readPerson 161 = .ok (.aload_n 0, 1) := by decide +kernel
theorem dX6_readPerson_162 : decode cX6_readPerson 162 = .ok (.iconst 0, 1) := by decide +kernel
theorem dX6_readPerson_163 : decode cX6_readPerson 163 = .ok (.bipush 9, 2) := by decide +kernel
theorem dX6_readPerson_165 : decode cX6_readPerson 165 = .ok (.invokevirtual 96, 3) := by decide +kernel
theorem dX6_readPerson_168 : decode cX6_readPerson 168 = .ok (.ifCond .ne 5, 3) := by decide +kernel
theorem dX6_readPerson_171 : decode cX6_readPerson 171 = .ok (.iconst 0, 1) := by decide +kernel
theorem dX6_readPerson_172 : decode cX6_readPerson 172 = .ok (.ireturn, 1) := by decide +kernel
theorem dX6_readPerson_173 : decode cX6_readPerson 173 = .ok (.aload_n 0, 1) := by decide +kernel
theorem dX6_readPerson_174 : decode cX6_readPerson 174 = .ok (.getfield 26, 3) := by decide +kernel
theorem dX6_readPerson_177 : decode cX6_readPerson 177 = .ok (.lload_n 2, 1) := by decide +kernel
theorem dX6_readPerson_178 : decode cX6_readPerson 178 = .ok (.iload 4, 2) := by decide +kernel
theorem dX6_readPerson_180 : decode cX6_readPerson 180 = .ok (.iload 5, 2) := by decide +kernel
theorem dX6_readPerson_182 : decode cX6_readPerson 182 = .ok (.aload_n 0, 1) := by decide +kernel
theorem dX6_readPerson_183 : decode cX6_readPerson 183 = .ok (.getfield 100, 3) := by decide +kernel
theorem dX6_readPerson_186 : decode cX6_readPerson 186 = .ok (.invokevirtual 103, 3) := by decide +kernel
theorem dX6_readPerson_189 : decode cX6_readPerson 189 = .ok (.iconst 1, 1) := by decide +kernel
theorem dX6_readPerson_190 : decode cX6_readPerson 190 = .ok (.ireturn, 1) := by decide +kernel
def g_X6_readPerson_100 (t0 : Nat)  (h : zH) : Option (Bool × zH) := (g_X4_fail_c5 h t0 1).bind fun v_27 => some (v_27.1, v_27.2)
def g_X6_readPerson (h : zH) (t0 : Nat) : Option (Bool × zH) := zlet (h.1 (zR t0 1) 7) fun v_1 => if v_1 < 7 then ((g_X8_lookAtNext h (zR t0 0)).bind fun v_3 => (g_X8_isName v_3 (zR t0 0)).bind fun v_4 => if (zb v_4) = 0 then ((g_X4_fail_c5 v_3 t0 1).bind fun v_25 => some (v_25.1, v_25.2)) else ((g_X8_packedWord v_3 (zR t0 0)).bind fun v_6 => (g_X5_numberOf v_3 (zR t0 1) v_6).bind fun v_7 => if v_7 = (-1) then ((g_X8_lookAtNext v_3 (zR t0 0)).bind fun v_9 => if (v_9.1 (zR t0 0) 2) < 31 then (g_X6_readPerson_100 t0 v_9) else (if (v_9.1 (zR t0 0) 2) ≤ 34 then (zlet ((v_9.1 (zR t0 0) 2) - 31) fun v_12 => (g_X8_lookAtNext v_9 (zR t0 0)).bind fun v_13 => (g_X4_take_c5 v_13 t0 13).bind fun v_14 => if (zb v_14.1) = 0 then (some (false, v_14.2)) else ((g_X4_takeNumber_c5 v_14.2 t0 0 99).bind fun v_16 => if (zb v_16.1) = 0 then (some (false, v_16.2)) else (zlet (v_16.2.1 t0 2) fun v_18 => (g_X4_take_c5 v_16.2 t0 14).bind fun v_19 => if (zb v_19.1) = 0 then (some (false, v_19.2)) else ((g_X4_takeNumber_c5 v_19.2 t0 0 9).bind fun v_21 => if (zb v_21.1) = 0 then (some (false, v_21.2)) else ((g_X5_addPerson v_21.2 (zR t0 1) v_6 v_12 v_18 (v_21.2.1 t0 2)).bind fun v_23 => some (true, v_23)))))) else (g_X6_readPerson_100 t0 v_9))) else ((g_X4_fail_c5 v_3 t0 3).bind fun v_24 => some (v_24.1, v_24.2)))) else ((g_X4_fail_c5 h t0 5).bind fun v_26 => some (v_26.1, v_26.2))
set_option maxRecDepth 100000 in
set_option maxHeartbeats 4000000 in
theorem b_X6_readPerson_100 {K : zK} {G : zG} (hK : zC K G cX6_readPerson RX6 6 7 152 (some .boolean)) {t0 : Nat} (ht0 : zT t0 = (5, 0)) {r : Bool × zH} (hE : zE K G (some (.int (zb r.1))) r.2) (h : zH) (hg : g_X6_readPerson_100 t0 h = some r) : zW K G 6 100 [(0, .ref (G.2.2.2 t0))] [] h := by
  rw [g_X6_readPerson_100] at hg
  obtain ⟨v_27, qv_27, hg⟩ := zbind_some hg
  exact z_aload_n (pc := 100) hK 0 dX6_readPerson_100 rfl (z_iconst (pc := 101) hK dX6_readPerson_101 zc_i1 (z_callUi (pc := 102) hK [.int 1] (m_X4_fail_c5 (zC_D hK) ht0 qv_27) su_X4_fail_c5_X6 q_680 ht0 rfl [] rfl (Nat.le_of_ble_eq_true rfl) ⟨by decide, by decide⟩ dX6_readPerson_102 (z_zretE (pc := 105) hK rfl hE hg dX6_readPerson_105)))
set_option maxRecDepth 100000 in
set_option maxHeartbeats 4000000 in
theorem b_X6_readPerson {K : zK} {G : zG} (hK : zC K G cX6_readPerson RX6 6 7 152 (some .boolean)) {h : zH} {t0 : Nat} (ht0 : zT t0 = (5, 0)) {r : Bool × zH} (hE : zE K G (some (.int (zb r.1))) r.2) (hg : g_X6_readPerson h t0 = some r) : zW K G 6 0 [(0, .ref (G.2.2.2 t0))] [] h := by
  rw [g_X6_readPerson] at hg
  obtain ⟨v_1, ev_1, hg⟩ := zlet_some hg
  refine z_aload_n (pc := 0) hK 0 dX6_readPerson_0 rfl (z_getR (pc := 1) hK f_X6_26_5 ht0 dX6_readPerson_1 (z_getI (pc := 4) hK f_X6_76_4 (zt_5_1 ht0) dX6_readPerson_4 (z_nameI ev_1 (z_istore_n (pc := 7) hK (lv' := [(1, .int v_1), (0, .ref (G.2.2.2 t0))]) dX6_readPerson_7 (by decide) rfl (z_iload_n (pc := 8) hK 0 dX6_readPerson_8 rfl (z_bipush (pc := 9) hK dX6_readPerson_9 zc_b7 (z_icmp_lt (pc := 11) hK 20 dX6_readPerson_11 (by decide) (fun c_2 => ?_) (fun c_2 => ?_))))))))
  · rw [if_pos c_2] at hg
    obtain ⟨v_3, qv_3, hg⟩ := zbind_some hg
    obtain ⟨v_4, qv_4, hg⟩ := zbind_some hg
    refine z_aload_n (pc := 20) hK 1 dX6_readPerson_20 rfl (z_getR (pc := 21) hK f_X6_38_5 ht0 dX6_readPerson_21 (z_callVv (pc := 24) hK [] (m_X8_lookAtNext (zC_D hK) (zt_5_0 ht0) qv_3) sv_X8_lookAtNext q_686 (zt_5_0 ht0) rfl [] rfl (Nat.le_of_ble_eq_true rfl) ⟨by decide, by decide⟩ dX6_readPerson_24 (z_aload_n (pc := 27) hK 1 dX6_readPerson_27 rfl (z_getR (pc := 28) hK f_X6_38_5 ht0 dX6_readPerson_28 (z_callVi (pc := 31) hK [] (m_X8_isName (zC_D hK) (zt_5_0 ht0) qv_4) sv_X8_isName q_687 (zt_5_0 ht0) rfl [] rfl (Nat.le_of_ble_eq_true rfl) ⟨by decide, by decide⟩ dX6_readPerson_31 (z_if_ne (pc := 34) hK 43 dX6_readPerson_34 (by decide) (fun c_5 => ?_) (fun c_5 => ?_)))))))
    · rw [if_neg c_5] at hg
      obtain ⟨v_6, qv_6, hg⟩ := zbind_some hg
      obtain ⟨v_7, qv_7, hg⟩ := zbind_some hg
      refine z_aload_n (pc := 43) hK 1 dX6_readPerson_43 rfl (z_getR (pc := 44) hK f_X6_38_5 ht0 dX6_readPerson_44 (z_callVl (pc := 47) hK [] (m_X8_packedWord (zC_D hK) (zt_5_0 ht0) qv_6) sv_X8_packedWord q_691 (zt_5_0 ht0) rfl [] rfl (Nat.le_of_ble_eq_true rfl) ⟨by decide, by decide⟩ dX6_readPerson_47 (z_lstore_n (pc := 50) hK (lv' := [(2, .long v_6), (1, .int v_1), (0, .ref (G.2.2.2 t0))]) dX6_readPerson_50 (by decide) rfl (z_aload_n (pc := 51) hK 2 dX6_readPerson_51 rfl (z_getR (pc := 52) hK f_X6_26_5 ht0 dX6_readPerson_52 (z_lload_n (pc := 55) hK 0 dX6_readPerson_55 rfl (z_callVi (pc := 56) hK [.long v_6] (m_X5_numberOf (zC_D hK) (zt_5_1 ht0) qv_7) sv_X5_numberOf q_696 (zt_5_1 ht0) rfl [] rfl (Nat.le_of_ble_eq_true rfl) ⟨by decide, by decide⟩ dX6_readPerson_56 (z_iconst (pc := 59) hK dX6_readPerson_59 zc_im1 (z_icmp_eq (pc := 60) hK 69 dX6_readPerson_60 (by decide) (fun c_8 => ?_) (fun c_8 => ?_))))))))))
      · rw [if_pos c_8] at hg
        obtain ⟨v_9, qv_9, hg⟩ := zbind_some hg
        refine z_aload_n (pc := 69) hK 2 dX6_readPerson_69 rfl (z_getR (pc := 70) hK f_X6_38_5 ht0 dX6_readPerson_70 (z_callVv (pc := 73) hK [] (m_X8_lookAtNext (zC_D hK) (zt_5_0 ht0) qv_9) sv_X8_lookAtNext q_686 (zt_5_0 ht0) rfl [] rfl (Nat.le_of_ble_eq_true rfl) ⟨by decide, by decide⟩ dX6_readPerson_73 (z_aload_n (pc := 76) hK 2 dX6_readPerson_76 rfl (z_getR (pc := 77) hK f_X6_38_5 ht0 dX6_readPerson_77 (z_getI (pc := 80) hK f_X6_42_7 (zt_5_0 ht0) dX6_readPerson_80 (z_bipush (pc := 83) hK dX6_readPerson_83 zc_b31 (z_icmp_lt (pc := 85) hK 100 dX6_readPerson_85 (by decide) (fun c_10 => ?_) (fun c_10 => ?_))))))))
        · rw [if_pos c_10] at hg
          exact zsub (lv' := [(0, .ref (G.2.2.2 t0))]) [2] rfl (b_X6_readPerson_100 hK ht0 hE v_9 hg)
        · rw [if_neg c_10] at hg
          refine z_aload_n (pc := 88) hK 2 dX6_readPerson_88 rfl (z_getR (pc := 89) hK f_X6_38_5 ht0 dX6_readPerson_89 (z_getI (pc := 92) hK f_X6_42_7 (zt_5_0 ht0) dX6_readPerson_92 (z_bipush (pc := 95) hK dX6_readPerson_95 zc_b34 (z_icmp_le (pc := 97) hK 106 dX6_readPerson_97 (by decide) (fun c_11 => ?_) (fun c_11 => ?_)))))
          · rw [if_pos c_11] at hg
            obtain ⟨v_12, ev_12, hg⟩ := zlet_some hg
            obtain ⟨v_13, qv_13, hg⟩ := zbind_some hg
            obtain ⟨v_14, qv_14, hg⟩ := zbind_some hg
            refine z_aload_n (pc := 106) hK 2 dX6_readPerson_106 rfl (z_getR (pc := 107) hK f_X6_38_5 ht0 dX6_readPerson_107 (z_getI (pc := 110) hK f_X6_42_7 (zt_5_0 ht0) dX6_readPerson_110 (z_bipush (pc := 113) hK dX6_readPerson_113 zc_b31 (z_isub (pc := 115) hK dX6_readPerson_115 (z_nameI ev_12 (z_istore (pc := 116) hK (lv' := [(4, .int v_12), (2, .long v_6), (1, .int v_1), (0, .ref (G.2.2.2 t0))]) dX6_readPerson_116 (by decide) rfl (z_aload_n (pc := 118) hK 3 dX6_readPerson_118 rfl (z_getR (pc := 119) hK f_X6_38_5 ht0 dX6_readPerson_119 (z_callVv (pc := 122) hK [] (m_X8_lookAtNext (zC_D hK) (zt_5_0 ht0) qv_13) sv_X8_lookAtNext q_686 (zt_5_0 ht0) rfl [] rfl (Nat.le_of_ble_eq_true rfl) ⟨by decide, by decide⟩ dX6_readPerson_122 (z_aload_n (pc := 125) hK 3 dX6_readPerson_125 rfl (z_bipush (pc := 126) hK dX6_readPerson_126 zc_b13 (z_callUi (pc := 128) hK [.int 13] (m_X4_take_c5 (zC_D hK) ht0 qv_14) su_X4_take_c5_X6 q_700 ht0 rfl [] rfl (Nat.le_of_ble_eq_true rfl) ⟨by decide, by decide⟩ dX6_readPerson_128 (z_if_eq (pc := 131) hK 144 dX6_readPerson_131 (by decide) (fun c_15 => ?_) (fun c_15 => ?_))))))))))))))
            · rw [if_pos c_15] at hg
              exact z_iconst (pc := 144) hK dX6_readPerson_144 zc_i0 (z_zretE (pc := 145) hK rfl hE hg dX6_readPerson_145)
            · rw [if_neg c_15] at hg
              obtain ⟨v_16, qv_16, hg⟩ := zbind_some hg
              refine z_aload_n (pc := 134) hK 3 dX6_readPerson_134 rfl (z_iconst (pc := 135) hK dX6_readPerson_135 zc_i0 (z_bipush (pc := 136) hK dX6_readPerson_136 zc_b99 (z_callUi (pc := 138) hK [.int 0, .int 99] (m_X4_takeNumber_c5 (zC_D hK) ht0 qv_16) su_X4_takeNumber_c5_X6 q_708 ht0 rfl [] rfl (Nat.le_of_ble_eq_true rfl) ⟨by decide, by decide⟩ dX6_readPerson_138 (z_if_ne (pc := 141) hK 146 dX6_readPerson_141 (by decide) (fun c_17 => ?_) (fun c_17 => ?_)))))
              · rw [if_neg c_17] at hg
                obtain ⟨v_18, ev_18, hg⟩ := zlet_some hg
                obtain ⟨v_19, qv_19, hg⟩ := zbind_some hg
                refine z_aload_n (pc := 146) hK 3 dX6_readPerson_146 rfl (z_getI (pc := 147) hK f_X6_100_5 ht0 dX6_readPerson_147 (z_nameI ev_18 (z_istore (pc := 150) hK (lv' := [(5, .int v_18), (4, .int v_12), (2, .long v_6), (1, .int v_1), (0, .ref (G.2.2.2 t0))]) dX6_readPerson_150 (by decide) rfl (z_aload_n (pc := 152) hK 4 dX6_readPerson_152 rfl (z_bipush (pc := 153) hK dX6_readPerson_153 zc_b14 (z_callUi (pc := 155) hK [.int 14] (m_X4_take_c5 (zC_D hK) ht0 qv_19) su_X4_take_c5_X6 q_700 ht0 rfl [] rfl (Nat.le_of_ble_eq_true rfl) ⟨by decide, by decide⟩ dX6_readPerson_155 (z_if_eq (pc := 158) hK 171 dX6_readPerson_158 (by decide) (fun c_20 => ?_) (fun c_20 => ?_))))))))
                · rw [if_pos c_20] at hg
                  exact z_iconst (pc := 171) hK dX6_readPerson_171 zc_i0 (z_zretE (pc := 172) hK rfl hE hg dX6_readPerson_172)
                · rw [if_neg c_20] at hg
                  obtain ⟨v_21, qv_21, hg⟩ := zbind_some hg
                  refine z_aload_n (pc := 161) hK 4 dX6_readPerson_161 rfl (z_iconst (pc := 162) hK dX6_readPerson_162 zc_i0 (z_bipush (pc := 163) hK dX6_readPerson_163 zc_b9 (z_callUi (pc := 165) hK [.int 0, .int 9] (m_X4_takeNumber_c5 (zC_D hK) ht0 qv_21) su_X4_takeNumber_c5_X6 q_708 ht0 rfl [] rfl (Nat.le_of_ble_eq_true rfl) ⟨by decide, by decide⟩ dX6_readPerson_165 (z_if_ne (pc := 168) hK 173 dX6_readPerson_168 (by decide) (fun c_22 => ?_) (fun c_22 => ?_)))))
                  · rw [if_neg c_22] at hg
                    obtain ⟨v_23, qv_23, hg⟩ := zbind_some hg
                    exact z_aload_n (pc := 173) hK 4 dX6_readPerson_173 rfl (z_getR (pc := 174) hK f_X6_26_5 ht0 dX6_readPerson_174 (z_lload_n (pc := 177) hK 2 dX6_readPerson_177 rfl (z_iload (pc := 178) hK 1 dX6_readPerson_178 rfl (z_iload (pc := 180) hK 0 dX6_readPerson_180 rfl (z_aload_n (pc := 182) hK 4 dX6_readPerson_182 rfl (z_getI (pc := 183) hK f_X6_100_5 ht0 dX6_readPerson_183 (z_callVv (pc := 186) hK [.long v_6, .int v_12, .int v_18, .int (v_21.2.1 t0 2)] (m_X5_addPerson (zC_D hK) (zt_5_1 ht0) qv_23) sv_X5_addPerson q_714 (zt_5_1 ht0) rfl [] rfl (Nat.le_of_ble_eq_true rfl) ⟨by decide, by decide⟩ dX6_readPerson_186 (z_iconst (pc := 189) hK dX6_readPerson_189 zc_i1 (z_zretE (pc := 190) hK rfl hE hg dX6_readPerson_190)))))))))
                  · rw [if_pos c_22] at hg
                    exact z_iconst (pc := 171) hK dX6_readPerson_171 zc_i0 (z_zretE (pc := 172) hK rfl hE hg dX6_readPerson_172)
              · rw [if_pos c_17] at hg
                exact z_iconst (pc := 144) hK dX6_readPerson_144 zc_i0 (z_zretE (pc := 145) hK rfl hE hg dX6_readPerson_145)
          · rw [if_neg c_11] at hg
            exact zsub (lv' := [(0, .ref (G.2.2.2 t0))]) [2] rfl (b_X6_readPerson_100 hK ht0 hE v_9 hg)
      · rw [if_neg c_8] at hg
        obtain ⟨v_24, qv_24, hg⟩ := zbind_some hg
        exact z_aload_n (pc := 63) hK 2 dX6_readPerson_63 rfl (z_iconst (pc := 64) hK dX6_readPerson_64 zc_i3 (z_callUi (pc := 65) hK [.int 3] (m_X4_fail_c5 (zC_D hK) ht0 qv_24) su_X4_fail_c5_X6 q_680 ht0 rfl [] rfl (Nat.le_of_ble_eq_true rfl) ⟨by decide, by decide⟩ dX6_readPerson_65 (z_zretE (pc := 68) hK rfl hE hg dX6_readPerson_68)))
    · rw [if_pos c_5] at hg
      obtain ⟨v_25, qv_25, hg⟩ := zbind_some hg
      exact z_aload_n (pc := 37) hK 1 dX6_readPerson_37 rfl (z_iconst (pc := 38) hK dX6_readPerson_38 zc_i1 (z_callUi (pc := 39) hK [.int 1] (m_X4_fail_c5 (zC_D hK) ht0 qv_25) su_X4_fail_c5_X6 q_680 ht0 rfl [] rfl (Nat.le_of_ble_eq_true rfl) ⟨by decide, by decide⟩ dX6_readPerson_39 (z_zretE (pc := 42) hK rfl hE hg dX6_readPerson_42)))
  · rw [if_neg c_2] at hg
    obtain ⟨v_26, qv_26, hg⟩ := zbind_some hg
    exact z_aload_n (pc := 14) hK 1 dX6_readPerson_14 rfl (z_iconst (pc := 15) hK dX6_readPerson_15 zc_i5 (z_callUi (pc := 16) hK [.int 5] (m_X4_fail_c5 (zC_D hK) ht0 qv_26) su_X4_fail_c5_X6 q_680 ht0 rfl [] rfl (Nat.le_of_ble_eq_true rfl) ⟨by decide, by decide⟩ dX6_readPerson_16 (z_zretE (pc := 19) hK rfl hE hg dX6_readPerson_19)))
theorem m_X6_readPerson {l : Launch} {G : zG} (hG : zD G) {h : zH} {t0 : Nat} (ht0 : zT t0 = (5, 0)) {r : Bool × zH} (hg : g_X6_readPerson h t0 = some r) : zM l G yX6_readPerson cX6_readPerson 6 (some .boolean) 7 152 [.ref (G.2.2.2 t0)] h (some (.int (zb r.1))) r.2 :=
  zM_of hG pn_X6 (Nat.le_of_ble_eq_true rfl) (fun K _ hK hE => b_X6_readPerson hK ht0 hE hg)
theorem dX6_readLine_0 : decode cX6_readLine 0 = .ok (.aload_n 0, 1) := by decide +kernel
theorem dX6_readLine_1 : decode cX6_readLine 1 = .ok (.getfield 38, 3) := by decide +kernel
theorem dX6_readLine_4 : decode cX6_readLine 4 = .ok (.getfield 42, 3) := by decide +kernel
theorem dX6_readLine_7 : decode cX6_readLine 7 = .ok (.tableswitch 93 12 21 #[53, 93, 93, 58, 63, 68, 73, 78, 83, 88], 53) := by decide +kernel
theorem dX6_readLine_60 : decode cX6_readLine 60 = .ok (.aload_n 0, 1) := by decide +kernel
theorem dX6_readLine_61 : decode cX6_readLine 61 = .ok (.invokevirtual 47, 3) := by decide +kernel
theorem dX6_readLine_64 : decode cX6_readLine 64 = .ok (.ireturn, 1) := by decide +kernel
theorem dX6_readLine_65 : decode cX6_readLine 65 = .ok (.aload_n 0, 1) := by decide +kernel
theorem dX6_readLine_66 : decode cX6_readLine 66 = .ok (.invokevirtual 51, 3) := by decide +kernel
theorem dX6_readLine_69 : decode cX6_readLine 69 = .ok (.ireturn, 1) := by decide +kernel
theorem dX6_readLine_70 : decode cX6_readLine 70 = .ok (.aload_n 0, 1) := by decide +kernel
theorem dX6_readLine_71 : decode cX6_readLine 71 = .ok (.invokevirtual 54, 3) := by decide +kernel
theorem dX6_readLine_74 : decode cX6_readLine 74 = .ok (.ireturn, 1) := by decide +kernel
theorem dX6_readLine_75 : decode cX6_readLine 75 = .ok (.aload_n 0, 1) := by decide +kernel
theorem dX6_readLine_76 : decode cX6_readLine 76 = .ok (.invokevirtual 57, 3) := by decide +kernel
theorem dX6_readLine_79 : decode cX6_readLine 79 = .ok (.ireturn, 1) := by decide +kernel
theorem dX6_readLine_80 : decode cX6_readLine 80 = .ok (.aload_n 0, 1) := by decide +kernel
theorem dX6_readLine_81 : decode cX6_readLine 81 = .ok (.invokevirtual 60, 3) := by decide +kernel
theorem dX6_readLine_84 : decode cX6_readLine 84 = .ok (.ireturn, 1) := by decide +kernel
theorem dX6_readLine_85 : decode cX6_readLine 85 = .ok (.aload_n 0, 1) := by decide +kernel
theorem dX6_readLine_86 : decode cX6_readLine 86 = .ok (.invokevirtual 63, 3) := by decide +kernel
theorem dX6_readLine_89 : decode cX6_readLine 89 = .ok (.ireturn, 1) := by decide +kernel
theorem dX6_readLine_90 : decode cX6_readLine 90 = .ok (.aload_n 0, 1) := by decide +kernel
theorem dX6_readLine_91 : decode cX6_readLine 91 = .ok (.invokevirtual 66, 3) := by decide +kernel
theorem dX6_readLine_94 : decode cX6_readLine 94 = .ok (.ireturn, 1) := by decide +kernel
theorem dX6_readLine_95 : decode cX6_readLine 95 = .ok (.aload_n 0, 1) := by decide +kernel
theorem dX6_readLine_96 : decode cX6_readLine 96 = .ok (.invokevirtual 69, 3) := by decide +kernel
theorem dX6_readLine_99 : decode cX6_readLine 99 = .ok (.ireturn, 1) := by decide +kernel
theorem dX6_readLine_100 : decode cX6_readLine 100 = .ok (.aload_n 0, 1) := by decide +kernel
theorem dX6_readLine_101 : decode cX6_readLine 101 = .ok (.iconst 1, 1) := by decide +kernel
theorem dX6_readLine_102 : decode cX6_readLine 102 = .ok (.invokevirtual 72, 3) := by decide +kernel
theorem dX6_readLine_105 : decode cX6_readLine 105 = .ok (.ireturn, 1) := by decide +kernel
def g_X6_readLine (h : zH) (t0 : Nat) : Option (Bool × zH) := zlet (h.1 (zR t0 0) 2) fun v_1 => if v_1 = 12 then ((g_X6_readPerson h t0).bind fun v_3 => some (v_3.1, v_3.2)) else if v_1 = 13 then ((g_X4_fail_c5 h t0 1).bind fun v_5 => some (v_5.1, v_5.2)) else if v_1 = 14 then ((g_X4_fail_c5 h t0 1).bind fun v_7 => some (v_7.1, v_7.2)) else if v_1 = 15 then ((g_X6_readGrudge h t0).bind fun v_9 => some (v_9.1, v_9.2)) else if v_1 = 16 then ((g_X6_readHeir h t0).bind fun v_11 => some (v_11.1, v_11.2)) else if v_1 = 17 then ((g_X6_readBar h t0).bind fun v_13 => some (v_13.1, v_13.2)) else if v_1 = 18 then ((g_X6_readDead h t0).bind fun v_15 => some (v_15.1, v_15.2)) else if v_1 = 19 then ((g_X6_readTies h t0).bind fun v_17 => some (v_17.1, v_17.2)) else if v_1 = 20 then ((g_X6_readGrows h t0).bind fun v_19 => some (v_19.1, v_19.2)) else if v_1 = 21 then ((g_X6_readEases h t0).bind fun v_21 => some (v_21.1, v_21.2)) else (g_X4_fail_c5 h t0 1).bind fun v_22 => some (v_22.1, v_22.2)
set_option maxRecDepth 100000 in
set_option maxHeartbeats 4000000 in
theorem b_X6_readLine {K : zK} {G : zG} (hK : zC K G cX6_readLine RX6 1 8 177 (some .boolean)) {h : zH} {t0 : Nat} (ht0 : zT t0 = (5, 0)) {r : Bool × zH} (hE : zE K G (some (.int (zb r.1))) r.2) (hg : g_X6_readLine h t0 = some r) : zW K G 1 0 [(0, .ref (G.2.2.2 t0))] [] h := by
  rw [g_X6_readLine] at hg
  obtain ⟨v_1, ev_1, hg⟩ := zlet_some hg
  refine z_aload_n (pc := 0) hK 0 dX6_readLine_0 rfl (z_getR (pc := 1) hK f_X6_38_5 ht0 dX6_readLine_1 (z_getI (pc := 4) hK f_X6_42_7 (zt_5_0 ht0) dX6_readLine_4 (z_nameI ev_1 ?_)))
  by_cases c_2 : v_1 = 12
  · rw [if_pos c_2] at hg
    refine z_tableIn (pc := 7) hK 60 dX6_readLine_7 (by rw [c_2]; decide) (by rw [c_2]; decide) (by rw [c_2] <;> rfl) (by decide) ?_
    obtain ⟨v_3, qv_3, hg⟩ := zbind_some hg
    exact z_aload_n (pc := 60) hK 0 dX6_readLine_60 rfl (z_callVi (pc := 61) hK [] (m_X6_readPerson (zC_D hK) ht0 qv_3) sv_X6_readPerson q_676 ht0 rfl [] rfl (Nat.le_of_ble_eq_true rfl) ⟨by decide, by decide⟩ dX6_readLine_61 (z_zretE (pc := 64) hK rfl hE hg dX6_readLine_64))
  rw [if_neg c_2] at hg
  by_cases c_4 : v_1 = 13
  · rw [if_pos c_4] at hg
    refine z_tableIn (pc := 7) hK 100 dX6_readLine_7 (by rw [c_4]; decide) (by rw [c_4]; decide) (by rw [c_4] <;> rfl) (by decide) ?_
    obtain ⟨v_5, qv_5, hg⟩ := zbind_some hg
    exact z_aload_n (pc := 100) hK 0 dX6_readLine_100 rfl (z_iconst (pc := 101) hK dX6_readLine_101 zc_i1 (z_callUi (pc := 102) hK [.int 1] (m_X4_fail_c5 (zC_D hK) ht0 qv_5) su_X4_fail_c5_X6 q_680 ht0 rfl [] rfl (Nat.le_of_ble_eq_true rfl) ⟨by decide, by decide⟩ dX6_readLine_102 (z_zretE (pc := 105) hK rfl hE hg dX6_readLine_105)))
  rw [if_neg c_4] at hg
  by_cases c_6 : v_1 = 14
  · rw [if_pos c_6] at hg
    refine z_tableIn (pc := 7) hK 100 dX6_readLine_7 (by rw [c_6]; decide) (by rw [c_6]; decide) (by rw [c_6] <;> rfl) (by decide) ?_
    obtain ⟨v_7, qv_7, hg⟩ := zbind_some hg
    exact z_aload_n (pc := 100) hK 0 dX6_readLine_100 rfl (z_iconst (pc := 101) hK dX6_readLine_101 zc_i1 (z_callUi (pc := 102) hK [.int 1] (m_X4_fail_c5 (zC_D hK) ht0 qv_7) su_X4_fail_c5_X6 q_680 ht0 rfl [] rfl (Nat.le_of_ble_eq_true rfl) ⟨by decide, by decide⟩ dX6_readLine_102 (z_zretE (pc := 105) hK rfl hE hg dX6_readLine_105)))
  rw [if_neg c_6] at hg
  by_cases c_8 : v_1 = 15
  · rw [if_pos c_8] at hg
    refine z_tableIn (pc := 7) hK 65 dX6_readLine_7 (by rw [c_8]; decide) (by rw [c_8]; decide) (by rw [c_8] <;> rfl) (by decide) ?_
    obtain ⟨v_9, qv_9, hg⟩ := zbind_some hg
    exact z_aload_n (pc := 65) hK 0 dX6_readLine_65 rfl (z_callVi (pc := 66) hK [] (m_X6_readGrudge (zC_D hK) ht0 qv_9) sv_X6_readGrudge q_718 ht0 rfl [] rfl (Nat.le_of_ble_eq_true rfl) ⟨by decide, by decide⟩ dX6_readLine_66 (z_zretE (pc := 69) hK rfl hE hg dX6_readLine_69))
  rw [if_neg c_8] at hg
  by_cases c_10 : v_1 = 16
  · rw [if_pos c_10] at hg
    refine z_tableIn (pc := 7) hK 70 dX6_readLine_7 (by rw [c_10]; decide) (by rw [c_10]; decide) (by rw [c_10] <;> rfl) (by decide) ?_
    obtain ⟨v_11, qv_11, hg⟩ := zbind_some hg
    exact z_aload_n (pc := 70) hK 0 dX6_readLine_70 rfl (z_callVi (pc := 71) hK [] (m_X6_readHeir (zC_D hK) ht0 qv_11) sv_X6_readHeir q_738 ht0 rfl [] rfl (Nat.le_of_ble_eq_true rfl) ⟨by decide, by decide⟩ dX6_readLine_71 (z_zretE (pc := 74) hK rfl hE hg dX6_readLine_74))
  rw [if_neg c_10] at hg
  by_cases c_12 : v_1 = 17
  · rw [if_pos c_12] at hg
    refine z_tableIn (pc := 7) hK 75 dX6_readLine_7 (by rw [c_12]; decide) (by rw [c_12]; decide) (by rw [c_12] <;> rfl) (by decide) ?_
    obtain ⟨v_13, qv_13, hg⟩ := zbind_some hg
    exact z_aload_n (pc := 75) hK 0 dX6_readLine_75 rfl (z_callVi (pc := 76) hK [] (m_X6_readBar (zC_D hK) ht0 qv_13) sv_X6_readBar q_742 ht0 rfl [] rfl (Nat.le_of_ble_eq_true rfl) ⟨by decide, by decide⟩ dX6_readLine_76 (z_zretE (pc := 79) hK rfl hE hg dX6_readLine_79))
  rw [if_neg c_12] at hg
  by_cases c_14 : v_1 = 18
  · rw [if_pos c_14] at hg
    refine z_tableIn (pc := 7) hK 80 dX6_readLine_7 (by rw [c_14]; decide) (by rw [c_14]; decide) (by rw [c_14] <;> rfl) (by decide) ?_
    obtain ⟨v_15, qv_15, hg⟩ := zbind_some hg
    exact z_aload_n (pc := 80) hK 0 dX6_readLine_80 rfl (z_callVi (pc := 81) hK [] (m_X6_readDead (zC_D hK) ht0 qv_15) sv_X6_readDead q_750 ht0 rfl [] rfl (Nat.le_of_ble_eq_true rfl) ⟨by decide, by decide⟩ dX6_readLine_81 (z_zretE (pc := 84) hK rfl hE hg dX6_readLine_84))
  rw [if_neg c_14] at hg
  by_cases c_16 : v_1 = 19
  · rw [if_pos c_16] at hg
    refine z_tableIn (pc := 7) hK 85 dX6_readLine_7 (by rw [c_16]; decide) (by rw [c_16]; decide) (by rw [c_16] <;> rfl) (by decide) ?_
    obtain ⟨v_17, qv_17, hg⟩ := zbind_some hg
    exact z_aload_n (pc := 85) hK 0 dX6_readLine_85 rfl (z_callVi (pc := 86) hK [] (m_X6_readTies (zC_D hK) ht0 qv_17) sv_X6_readTies q_760 ht0 rfl [] rfl (Nat.le_of_ble_eq_true rfl) ⟨by decide, by decide⟩ dX6_readLine_86 (z_zretE (pc := 89) hK rfl hE hg dX6_readLine_89))
  rw [if_neg c_16] at hg
  by_cases c_18 : v_1 = 20
  · rw [if_pos c_18] at hg
    refine z_tableIn (pc := 7) hK 90 dX6_readLine_7 (by rw [c_18]; decide) (by rw [c_18]; decide) (by rw [c_18] <;> rfl) (by decide) ?_
    obtain ⟨v_19, qv_19, hg⟩ := zbind_some hg
    exact z_aload_n (pc := 90) hK 0 dX6_readLine_90 rfl (z_callVi (pc := 91) hK [] (m_X6_readGrows (zC_D hK) ht0 qv_19) sv_X6_readGrows q_764 ht0 rfl [] rfl (Nat.le_of_ble_eq_true rfl) ⟨by decide, by decide⟩ dX6_readLine_91 (z_zretE (pc := 94) hK rfl hE hg dX6_readLine_94))
  rw [if_neg c_18] at hg
  by_cases c_20 : v_1 = 21
  · rw [if_pos c_20] at hg
    refine z_tableIn (pc := 7) hK 95 dX6_readLine_7 (by rw [c_20]; decide) (by rw [c_20]; decide) (by rw [c_20] <;> rfl) (by decide) ?_
    obtain ⟨v_21, qv_21, hg⟩ := zbind_some hg
    exact z_aload_n (pc := 95) hK 0 dX6_readLine_95 rfl (z_callVi (pc := 96) hK [] (m_X6_readEases (zC_D hK) ht0 qv_21) sv_X6_readEases q_809 ht0 rfl [] rfl (Nat.le_of_ble_eq_true rfl) ⟨by decide, by decide⟩ dX6_readLine_96 (z_zretE (pc := 99) hK rfl hE hg dX6_readLine_99))
  rw [if_neg c_20] at hg
  refine z_tableOut (pc := 7) hK 100 dX6_readLine_7 (by have zc_2 := zne_k (n := 12) c_2 (by decide); have zc_4 := zne_k (n := 13) c_4 (by decide); have zc_6 := zne_k (n := 14) c_6 (by decide); have zc_8 := zne_k (n := 15) c_8 (by decide); have zc_10 := zne_k (n := 16) c_10 (by decide); have zc_12 := zne_k (n := 17) c_12 (by decide); have zc_14 := zne_k (n := 18) c_14 (by decide); have zc_16 := zne_k (n := 19) c_16 (by decide); have zc_18 := zne_k (n := 20) c_18 (by decide); have zc_20 := zne_k (n := 21) c_20 (by decide); omega) (by decide) ?_
  obtain ⟨v_22, qv_22, hg⟩ := zbind_some hg
  exact z_aload_n (pc := 100) hK 0 dX6_readLine_100 rfl (z_iconst (pc := 101) hK dX6_readLine_101 zc_i1 (z_callUi (pc := 102) hK [.int 1] (m_X4_fail_c5 (zC_D hK) ht0 qv_22) su_X4_fail_c5_X6 q_680 ht0 rfl [] rfl (Nat.le_of_ble_eq_true rfl) ⟨by decide, by decide⟩ dX6_readLine_102 (z_zretE (pc := 105) hK rfl hE hg dX6_readLine_105)))
theorem m_X6_readLine {l : Launch} {G : zG} (hG : zD G) {h : zH} {t0 : Nat} (ht0 : zT t0 = (5, 0)) {r : Bool × zH} (hg : g_X6_readLine h t0 = some r) : zM l G yX6_readLine cX6_readLine 1 (some .boolean) 8 177 [.ref (G.2.2.2 t0)] h (some (.int (zb r.1))) r.2 :=
  zM_of hG pn_X6 (Nat.le_of_ble_eq_true rfl) (fun K _ hK hE => b_X6_readLine hK ht0 hE hg)
theorem dX7_isAlive_0 : decode cX7_isAlive 0 = .ok (.iload_n 1, 1) := by decide +kernel
theorem dX7_isAlive_1 : decode cX7_isAlive 1 = .ok (.ifCond .lt 25, 3) := by decide +kernel
theorem dX7_isAlive_4 : decode cX7_isAlive 4 = .ok (.iload_n 1, 1) := by decide +kernel
theorem dX7_isAlive_5 : decode cX7_isAlive 5 = .ok (.bipush 7, 2) := by decide +kernel
theorem dX7_isAlive_7 : decode cX7_isAlive 7 = .ok (.if_icmp .ge 19, 3) := by decide +kernel
theorem dX7_isAlive_10 : decode cX7_isAlive 10 = .ok (.aload_n 0, 1) := by decide +kernel
theorem dX7_isAlive_11 : decode cX7_isAlive 11 = .ok (.getfield 44, 3) := by decide +kernel
theorem dX7_isAlive_14 : decode cX7_isAlive 14 = .ok (.iload_n 1, 1) := by decide +kernel
theorem dX7_isAlive_15 : decode cX7_isAlive 15 = .ok (.ishr, 1) := by decide +kernel
theorem dX7_isAlive_16 : decode cX7_isAlive 16 = .ok (.iconst 1, 1) := by decide +kernel
theorem dX7_isAlive_17 : decode cX7_isAlive 17 = .ok (.iand, 1) := by decide +kernel
theorem dX7_isAlive_18 : decode cX7_isAlive 18 = .ok (.iconst 1, 1) := by decide +kernel
theorem dX7_isAlive_19 : decode cX7_isAlive 19 = .ok (.if_icmp .ne 7, 3) := by decide +kernel
theorem dX7_isAlive_22 : decode cX7_isAlive 22 = .ok (.iconst 1, 1) := by decide +kernel
theorem dX7_isAlive_23 : decode cX7_isAlive 23 = .ok (.goto 4, 3) := by decide +kernel
theorem dX7_isAlive_26 : decode cX7_isAlive 26 = .ok (.iconst 0, 1) := by decide +kernel
theorem dX7_isAlive_27 : decode cX7_isAlive 27 = .ok (.ireturn, 1) := by decide +kernel
def g_X7_isAlive (h : zH) (t0 : Nat) (x1 : Int32) : Option Bool := if x1 < 0 then (some false) else (if 7 ≤ x1 then (some false) else (if (((h.1 t0 4) >>> (x1 &&& 31)) &&& 1) = 1 then (some true) else (some false)))
set_option maxRecDepth 100000 in
set_option maxHeartbeats 4000000 in
theorem b_X7_isAlive {K : zK} {G : zG} (hK : zC K G cX7_isAlive RX7 2 0 0 (some .boolean)) {h : zH} {t0 : Nat} {x1 : Int32} (ht0 : zT t0 = (6, 0)) {r : Bool} (hE : zE K G (some (.int (zb r))) h) (hg : g_X7_isAlive h t0 x1 = some r) : zW K G 2 0 [(0, .ref (G.2.2.2 t0)), (1, .int x1)] [] h := by
  rw [g_X7_isAlive] at hg
  refine z_iload_n (pc := 0) hK 1 dX7_isAlive_0 rfl (z_if_lt (pc := 1) hK 26 dX7_isAlive_1 (by decide) (fun c_1 => ?_) (fun c_1 => ?_))
  · rw [if_pos c_1] at hg
    exact z_iconst (pc := 26) hK dX7_isAlive_26 zc_i0 (z_zretP (pc := 27) hK rfl hE hg dX7_isAlive_27)
  · rw [if_neg c_1] at hg
    refine z_iload_n (pc := 4) hK 1 dX7_isAlive_4 rfl (z_bipush (pc := 5) hK dX7_isAlive_5 zc_b7 (z_icmp_ge (pc := 7) hK 26 dX7_isAlive_7 (by decide) (fun c_2 => ?_) (fun c_2 => ?_)))
    · rw [if_pos c_2] at hg
      exact z_iconst (pc := 26) hK dX7_isAlive_26 zc_i0 (z_zretP (pc := 27) hK rfl hE hg dX7_isAlive_27)
    · rw [if_neg c_2] at hg
      refine z_aload_n (pc := 10) hK 0 dX7_isAlive_10 rfl (z_getI (pc := 11) hK f_X7_44_6 ht0 dX7_isAlive_11 (z_iload_n (pc := 14) hK 1 dX7_isAlive_14 rfl (z_ishr (pc := 15) hK dX7_isAlive_15 (z_iconst (pc := 16) hK dX7_isAlive_16 zc_i1 (z_iand (pc := 17) hK dX7_isAlive_17 (z_iconst (pc := 18) hK dX7_isAlive_18 zc_i1 (z_icmp_ne (pc := 19) hK 26 dX7_isAlive_19 (by decide) (fun c_3 => ?_) (fun c_3 => ?_))))))))
      · rw [if_neg c_3] at hg
        exact z_iconst (pc := 26) hK dX7_isAlive_26 zc_i0 (z_zretP (pc := 27) hK rfl hE hg dX7_isAlive_27)
      · rw [if_pos c_3] at hg
        exact z_iconst (pc := 22) hK dX7_isAlive_22 zc_i1 (z_goto (pc := 23) hK 27 dX7_isAlive_23 (by decide) (z_zretP (pc := 27) hK rfl hE hg dX7_isAlive_27))
theorem m_X7_isAlive {l : Launch} {G : zG} (hG : zD G) {h : zH} {t0 : Nat} {x1 : Int32} (ht0 : zT t0 = (6, 0)) {r : Bool} (hg : g_X7_isAlive h t0 x1 = some r) : zM l G yX7_isAlive cX7_isAlive 2 (some .boolean) 0 0 [.ref (G.2.2.2 t0), .int x1] h (some (.int (zb r))) h :=
  zM_of hG pn_X7 (Nat.le_of_ble_eq_true rfl) (fun K _ hK hE => b_X7_isAlive hK ht0 hE hg)
