theorem dX11_day_0 : decode cX11_day 0 = .ok (.aload_n 0, 1) := by decide +kernel
theorem dX11_day_1 : decode cX11_day 1 = .ok (.getfield 65, 3) := by decide +kernel
theorem dX11_day_4 : decode cX11_day 4 = .ok (.aload_n 0, 1) := by decide +kernel
theorem dX11_day_5 : decode cX11_day 5 = .ok (.getfield 54, 3) := by decide +kernel
theorem dX11_day_8 : decode cX11_day 8 = .ok (.getfield 123, 3) := by decide +kernel
theorem dX11_day_11 : decode cX11_day 11 = .ok (.invokevirtual 159, 3) := by decide +kernel
theorem dX11_day_14 : decode cX11_day 14 = .ok (.aload_n 0, 1) := by decide +kernel
theorem dX11_day_15 : decode cX11_day 15 = .ok (.getfield 54, 3) := by decide +kernel
theorem dX11_day_18 : decode cX11_day 18 = .ok (.getfield 123, 3) := by decide +kernel
theorem dX11_day_21 : decode cX11_day 21 = .ok (.aload_n 0, 1) := by decide +kernel
theorem dX11_day_22 : decode cX11_day 22 = .ok (.getfield 19, 3) := by decide +kernel
theorem dX11_day_25 : decode cX11_day 25 = .ok (.getfield 183, 3) := by decide +kernel
theorem dX11_day_28 : decode cX11_day 28 = .ok (.invokevirtual 186, 3) := by decide +kernel
theorem dX11_day_31 : decode cX11_day 31 = .ok (.ireturn, 1) := by decide +kernel
def g_X11_day (h : zH) (t0 : Nat) : Option (Int32 × zH) := (g_X3_keep h (zR t0 8) (zR (zR t0 6) 0)).bind fun v_1 => (g_X7_passDay v_1 (zR (zR t0 6) 0) (v_1.1 (zR t0 1) 8)).bind fun v_2 => some (v_2.1, v_2.2)
set_option maxRecDepth 100000 in
set_option maxHeartbeats 4000000 in
theorem b_X11_day {K : zK} {G : zG} (hK : zC K G cX11_day RX11 1 4 93 (some .int)) {h : zH} {t0 : Nat} (ht0 : zT t0 = (10, 0)) {r : Int32 × zH} (hE : zE K G (some (.int r.1)) r.2) (hg : g_X11_day h t0 = some r) : zW K G 1 0 [(0, .ref (G.2.2.2 t0))] [] h := by
  rw [g_X11_day] at hg
  obtain ⟨v_1, qv_1, hg⟩ := zbind_some hg
  obtain ⟨v_2, qv_2, hg⟩ := zbind_some hg
  exact z_aload_n (pc := 0) hK 0 dX11_day_0 rfl (z_getR (pc := 1) hK f_X11_65_10 ht0 dX11_day_1 (z_aload_n (pc := 4) hK 0 dX11_day_4 rfl (z_getR (pc := 5) hK f_X11_54_10 ht0 dX11_day_5 (z_getR (pc := 8) hK f_X11_123_2 (zt_10_6 ht0) dX11_day_8 (z_callVv (pc := 11) hK [.ref (G.2.2.2 (zR (zR t0 6) 0))] (m_X3_keep (zC_D hK) (zt_10_8 ht0) (zt_2_0 (zt_10_6 ht0)) qv_1) sv_X3_keep q_931 (zt_10_8 ht0) rfl [] rfl (Nat.le_of_ble_eq_true rfl) ⟨by decide, by decide⟩ dX11_day_11 (z_aload_n (pc := 14) hK 0 dX11_day_14 rfl (z_getR (pc := 15) hK f_X11_54_10 ht0 dX11_day_15 (z_getR (pc := 18) hK f_X11_123_2 (zt_10_6 ht0) dX11_day_18 (z_aload_n (pc := 21) hK 0 dX11_day_21 rfl (z_getR (pc := 22) hK f_X11_19_10 ht0 dX11_day_22 (z_getI (pc := 25) hK f_X11_183_4 (zt_10_1 ht0) dX11_day_25 (z_callVi (pc := 28) hK [.int (v_1.1 (zR t0 1) 8)] (m_X7_passDay (zC_D hK) (zt_2_0 (zt_10_6 ht0)) qv_2) sv_X7_passDay q_1020 (zt_2_0 (zt_10_6 ht0)) rfl [] rfl (Nat.le_of_ble_eq_true rfl) ⟨by decide, by decide⟩ dX11_day_28 (z_iretE (pc := 31) hK hE hg dX11_day_31)))))))))))))
theorem m_X11_day {l : Launch} {G : zG} (hG : zD G) {h : zH} {t0 : Nat} (ht0 : zT t0 = (10, 0)) {r : Int32 × zH} (hg : g_X11_day h t0 = some r) : zM l G yX11_day cX11_day 1 (some .int) 4 93 [.ref (G.2.2.2 t0)] h (some (.int r.1)) r.2 :=
  zM_of hG pn_X11 (Nat.le_of_ble_eq_true rfl) (fun K _ hK hE => b_X11_day hK ht0 hE hg)
theorem dX11_undo_0 : decode cX11_undo 0 = .ok (.aload_n 0, 1) := by decide +kernel
theorem dX11_undo_1 : decode cX11_undo 1 = .ok (.getfield 65, 3) := by decide +kernel
theorem dX11_undo_4 : decode cX11_undo 4 = .ok (.aload_n 0, 1) := by decide +kernel
theorem dX11_undo_5 : decode cX11_undo 5 = .ok (.getfield 54, 3) := by decide +kernel
theorem dX11_undo_8 : decode cX11_undo 8 = .ok (.getfield 123, 3) := by decide +kernel
theorem dX11_undo_11 : decode cX11_undo 11 = .ok (.invokevirtual 189, 3) := by decide +kernel
theorem dX11_undo_14 : decode cX11_undo 14 = .ok (.ireturn, 1) := by decide +kernel
def g_X11_undo (h : zH) (t0 : Nat) : Option (Bool × zH) := (g_X3_bringBack h (zR t0 8) (zR (zR t0 6) 0)).bind fun v_1 => some (v_1.1, v_1.2)
set_option maxRecDepth 100000 in
set_option maxHeartbeats 4000000 in
theorem b_X11_undo {K : zK} {G : zG} (hK : zC K G cX11_undo RX11 1 3 60 (some .boolean)) {h : zH} {t0 : Nat} (ht0 : zT t0 = (10, 0)) {r : Bool × zH} (hE : zE K G (some (.int (zb r.1))) r.2) (hg : g_X11_undo h t0 = some r) : zW K G 1 0 [(0, .ref (G.2.2.2 t0))] [] h := by
  rw [g_X11_undo] at hg
  obtain ⟨v_1, qv_1, hg⟩ := zbind_some hg
  exact z_aload_n (pc := 0) hK 0 dX11_undo_0 rfl (z_getR (pc := 1) hK f_X11_65_10 ht0 dX11_undo_1 (z_aload_n (pc := 4) hK 0 dX11_undo_4 rfl (z_getR (pc := 5) hK f_X11_54_10 ht0 dX11_undo_5 (z_getR (pc := 8) hK f_X11_123_2 (zt_10_6 ht0) dX11_undo_8 (z_callVi (pc := 11) hK [.ref (G.2.2.2 (zR (zR t0 6) 0))] (m_X3_bringBack (zC_D hK) (zt_10_8 ht0) (zt_2_0 (zt_10_6 ht0)) qv_1) sv_X3_bringBack q_1046 (zt_10_8 ht0) rfl [] rfl (Nat.le_of_ble_eq_true rfl) ⟨by decide, by decide⟩ dX11_undo_11 (z_zretE (pc := 14) hK rfl hE hg dX11_undo_14))))))
theorem m_X11_undo {l : Launch} {G : zG} (hG : zD G) {h : zH} {t0 : Nat} (ht0 : zT t0 = (10, 0)) {r : Bool × zH} (hg : g_X11_undo h t0 = some r) : zM l G yX11_undo cX11_undo 1 (some .boolean) 3 60 [.ref (G.2.2.2 t0)] h (some (.int (zb r.1))) r.2 :=
  zM_of hG pn_X11 (Nat.le_of_ble_eq_true rfl) (fun K _ hK hE => b_X11_undo hK ht0 hE hg)
theorem dX11_judged_0 : decode cX11_judged 0 = .ok (.iload_n 1, 1) := by decide +kernel
theorem dX11_judged_1 : decode cX11_judged 1 = .ok (.ifCond .lt 8, 3) := by decide +kernel
theorem dX11_judged_4 : decode cX11_judged 4 = .ok (.iload_n 1, 1) := by decide +kernel
theorem dX11_judged_5 : decode cX11_judged 5 = .ok (.iconst 2, 1) := by decide +kernel
theorem dX11_judged_6 : decode cX11_judged 6 = .ok (.if_icmp .le 6, 3) := by decide +kernel
theorem dX11_judged_9 : decode cX11_judged 9 = .ok (.bipush (-2), 2) := by decide +kernel
theorem dX11_judged_11 : decode cX11_judged 11 = .ok (.ireturn, 1) := by decide +kernel
theorem dX11_judged_12 : decode cX11_judged 12 = .ok (.iconst (-1), 1) := by decide +kernel
theorem dX11_judged_13 : decode cX11_judged 13 = .ok (.istore_n 2, 1) := by decide +kernel
theorem dX11_judged_14 : decode cX11_judged 14 = .ok (.iconst (-1), 1) := by decide +kernel
theorem dX11_judged_15 : decode cX11_judged 15 = .ok (.istore_n 3, 1) := by decide +kernel
theorem dX11_judged_16 : decode cX11_judged 16 = .ok (.aload_n 0, 1) := by decide +kernel
theorem dX11_judged_17 : decode cX11_judged 17 = .ok (.getfield 48, 3) := by decide +kernel
theorem dX11_judged_20 : decode cX11_judged 20 = .ok (.aload_n 0, 1) := by decide +kernel
theorem dX11_judged_21 : decode cX11_judged 21 = .ok (.getfield 44, 3) := by decide +kernel
theorem dX11_judged_24 : decode cX11_judged 24 = .ok (.invokevirtual 193, 3) := by decide +kernel
theorem dX11_judged_27 : decode cX11_judged 27 = .ok (.aload_n 0, 1) := by decide +kernel
theorem dX11_judged_28 : decode cX11_judged 28 = .ok (.getfield 48, 3) := by decide +kernel
theorem dX11_judged_31 : decode cX11_judged 31 = .ok (.invokevirtual 152, 3) := by decide +kernel
theorem dX11_judged_34 : decode cX11_judged 34 = .ok (.istore 4, 2) := by decide +kernel
theorem dX11_judged_36 : decode cX11_judged 36 = .ok (.iconst 0, 1) := by decide +kernel
theorem dX11_judged_37 : decode cX11_judged 37 = .ok (.istore 5, 2) := by decide +kernel
theorem dX11_judged_39 : decode cX11_judged 39 = .ok (.iload 5, 2) := by decide +kernel
theorem dX11_judged_41 : decode cX11_judged 41 = .ok (.aload_n 0, 1) := by decide +kernel
theorem dX11_judged_42 : decode cX11_judged 42 = .ok (.getfield 54, 3) := by decide +kernel
theorem dX11_judged_45 : decode cX11_judged 45 = .ok (.getfield 99, 3) := by decide +kernel
theorem dX11_judged_48 : decode cX11_judged 48 = .ok (.getfield 195, 3) := by decide +kernel
theorem dX11_judged_51 : decode cX11_judged 51 = .ok (.if_icmp .ge 72, 3) := by decide +kernel
theorem dX11_judged_54 : decode cX11_judged 54 = .ok (.aload_n 0, 1) := by decide +kernel
theorem dX11_judged_55 : decode cX11_judged 55 = .ok (.getfield 48, 3) := by decide +kernel
theorem dX11_judged_58 : decode cX11_judged 58 = .ok (.aload_n 0, 1) := by decide +kernel
theorem dX11_judged_59 : decode cX11_judged 59 = .ok (.getfield 54, 3) := by decide +kernel
theorem dX11_judged_62 : decode cX11_judged 62 = .ok (.getfield 99, 3) := by decide +kernel
theorem dX11_judged_65 : decode cX11_judged 65 = .ok (.getfield 198, 3) := by decide +kernel
theorem dX11_judged_68 : decode cX11_judged 68 = .ok (.iload 5, 2) := by decide +kernel
theorem dX11_judged_70 : decode cX11_judged 70 = .ok (.iaload, 1) := by decide +kernel
theorem dX11_judged_71 : decode cX11_judged 71 = .ok (.invokevirtual 201, 3) := by decide +kernel
theorem dX11_judged_74 : decode cX11_judged 74 = .ok (.istore 6, 2) := by decide +kernel
theorem dX11_judged_76 : decode cX11_judged 76 = .ok (.aload_n 0, 1) := by decide +kernel
theorem dX11_judged_77 : decode cX11_judged 77 = .ok (.getfield 48, 3) := by decide +kernel
theorem dX11_judged_80 : decode cX11_judged 80 = .ok (.invokevirtual 152, 3) := by decide +kernel
theorem dX11_judged_83 : decode cX11_judged 83 = .ok (.istore 7, 2) := by decide +kernel
theorem dX11_judged_85 : decode cX11_judged 85 = .ok (.iload 6, 2) := by decide +kernel
theorem dX11_judged_87 : decode cX11_judged 87 = .ok (.ifCond .ne 11, 3) := by decide +kernel
theorem dX11_judged_90 : decode cX11_judged 90 = .ok (.iload_n 2, 1) := by decide +kernel
theorem dX11_judged_91 : decode cX11_judged 91 = .ok (.iconst (-1), 1) := by decide +kernel
theorem dX11_judged_92 : decode cX11_judged 92 = .ok (.if_icmp .ne 6, 3) := by decide +kernel
theorem dX11_judged_95 : decode cX11_judged 95 = .ok (.iload 5, 2) := by decide +kernel
theorem dX11_judged_97 : decode cX11_judged 97 = .ok (.istore_n 2, 1) := by decide +kernel
theorem dX11_judged_98 : decode cX11_judged 98 = .ok (.iload 7, 2) := by decide +kernel
theorem dX11_judged_100 : decode cX11_judged 100 = .ok (.iload 4, 2) := by decide +kernel
theorem dX11_judged_102 : decode cX11_judged 102 = .ok (.if_icmp .eq 11, 3) := by decide +kernel
theorem dX11_judged_105 : decode cX11_judged 105 = .ok (.iload_n 3, 1) := by decide +kernel
theorem dX11_judged_106 : decode cX11_judged 106 = .ok (.iconst (-1), 1) := by decide +kernel
theorem dX11_judged_107 : decode cX11_judged 107 = .ok (.if_icmp .ne 6, 3) := by decide +kernel
theorem dX11_judged_110 : decode cX11_judged 110 = .ok (.iload 5, 2) := by decide +kernel
theorem dX11_judged_112 : decode cX11_judged 112 = .ok (.istore_n 3, 1) := by decide +kernel
theorem dX11_judged_113 : decode cX11_judged 113 = .ok (.iload 7, 2) := by decide +kernel
theorem dX11_judged_115 : decode cX11_judged 115 = .ok (.istore 4, 2) := by decide +kernel
theorem dX11_judged_117 : decode cX11_judged 117 = .ok (.iinc 5 1, 3) := by decide +kernel
theorem dX11_judged_120 : decode cX11_judged 120 = .ok (.goto (-81), 3) := by decide +kernel
theorem dX11_judged_123 : decode cX11_judged 123 = .ok (.iload_n 1, 1) := by decide +kernel
theorem dX11_judged_124 : decode cX11_judged 124 = .ok (.iconst 2, 1) := by decide +kernel
theorem dX11_judged_125 : decode cX11_judged 125 = .ok (.if_icmp .ne 6, 3) := by decide +kernel
theorem dX11_judged_128 : decode cX11_judged 128 = .ok (.iload 4, 2) := by decide +kernel
theorem dX11_judged_130 : decode cX11_judged 130 = .ok (.ireturn, 1) := by decide +kernel
theorem dX11_judged_131 : decode cX11_judged 131 = .ok (.iload_n 1, 1) := by decide +kernel
theorem dX11_judged_132 : decode cX11_judged 132 = .ok (.ifCond .ne 7, 3) := by decide +kernel
theorem dX11_judged_135 : decode cX11_judged 135 = .ok (.iload_n 2, 1) := by decide +kernel
theorem dX11_judged_136 : decode cX11_judged 136 = .ok (.goto 4, 3) := by decide +kernel
theorem dX11_judged_139 : decode cX11_judged 139 = .ok (.iload_n 3, 1) := by decide +kernel
theorem dX11_judged_140 : decode cX11_judged 140 = .ok (.ireturn, 1) := by decide +kernel
def g_X11_judged_98 (t0 : Nat) (k39 : Int32 → Int32 → Int32 → Int32 → Int32 → zH → Option (Int32 × zH)) (x1 : Int32) (x2 : Int32) (x3 : Int32) (x4 : Int32) (x5 : Int32) (x7 : Int32) (h : zH) : Option (Int32 × zH) := if x7 = x4 then (k39 x1 x2 x3 x7 (x5 + 1) h) else (if x3 = (-1) then (k39 x1 x2 x5 x7 (x5 + 1) h) else (k39 x1 x2 x3 x7 (x5 + 1) h))
def g_X11_judged_39 (t0 : Nat)  : Nat → Int32 → Int32 → Int32 → Int32 → Int32 → zH → Option (Int32 × zH)
  | 0, _, _, _, _, _, _ => none
  | n + 1, x1, x2, x3, x4, x5, h => if (h.1 (zR (zR t0 6) 1) 1) ≤ x5 then (if x1 = 2 then (some (x4, h)) else (if x1 = 0 then (some (x2, h)) else (some (x3, h)))) else (zgu (zin x5 40) <| (g_X7_perform h (zR t0 5) (h.1 (zR (zR (zR t0 6) 1) 0) (zx x5))).bind fun v_9 => (g_X7_governor v_9.2 (zR t0 5)).bind fun v_10 => if (zb v_9.1) = 0 then (if x2 = (-1) then (g_X11_judged_98 t0 (g_X11_judged_39 t0 n) x1 x5 x3 x4 x5 v_10 v_9.2) else (g_X11_judged_98 t0 (g_X11_judged_39 t0 n) x1 x2 x3 x4 x5 v_10 v_9.2)) else (g_X11_judged_98 t0 (g_X11_judged_39 t0 n) x1 x2 x3 x4 x5 v_10 v_9.2))
def g_X11_judged (h : zH) (t0 : Nat) (x1 : Int32) : Option (Int32 × zH) := if x1 < 0 then (some ((-2), h)) else (if x1 ≤ 2 then ((g_X7_become h (zR t0 5) (zR t0 4)).bind fun v_3 => (g_X7_governor v_3 (zR t0 5)).bind fun v_4 => g_X11_judged_39 t0 zfu x1 (-1) (-1) v_4 0 v_3) else (some ((-2), h)))
set_option maxRecDepth 100000 in
set_option maxHeartbeats 4000000 in
theorem b_X11_judged_98 {K : zK} {G : zG} (hK : zC K G cX11_judged RX11 8 7 157 (some .int)) {t0 : Nat} (ht0 : zT t0 = (10, 0)) {r : Int32 × zH} (hE : zE K G (some (.int r.1)) r.2) {k39 : Int32 → Int32 → Int32 → Int32 → Int32 → zH → Option (Int32 × zH)} (hk39 : ∀ (x1 : Int32) (x2 : Int32) (x3 : Int32) (x4 : Int32) (x5 : Int32) (h : zH), k39 x1 x2 x3 x4 x5 h = some r → zW K G 8 39 [(0, .ref (G.2.2.2 t0)), (1, .int x1), (2, .int x2), (3, .int x3), (4, .int x4), (5, .int x5)] [] h) (x1 : Int32) (x2 : Int32) (x3 : Int32) (x4 : Int32) (x5 : Int32) (x7 : Int32) (h : zH) (hg : g_X11_judged_98 t0 k39 x1 x2 x3 x4 x5 x7 h = some r) : zW K G 8 98 [(0, .ref (G.2.2.2 t0)), (1, .int x1), (2, .int x2), (3, .int x3), (4, .int x4), (5, .int x5), (7, .int x7)] [] h := by
  rw [g_X11_judged_98] at hg
  refine z_iload (pc := 98) hK 6 dX11_judged_98 rfl (z_iload (pc := 100) hK 4 dX11_judged_100 rfl (z_icmp_eq (pc := 102) hK 113 dX11_judged_102 (by decide) (fun c_13 => ?_) (fun c_13 => ?_)))
  · rw [if_pos c_13] at hg
    exact z_iload (pc := 113) hK 6 dX11_judged_113 rfl (z_istore (pc := 115) hK (lv' := [(4, .int x7), (0, .ref (G.2.2.2 t0)), (1, .int x1), (2, .int x2), (3, .int x3), (5, .int x5), (7, .int x7)]) dX11_judged_115 (by decide) rfl (z_iinc (pc := 117) hK 5 (lv' := [(5, .int (x5 + 1)), (4, .int x7), (0, .ref (G.2.2.2 t0)), (1, .int x1), (2, .int x2), (3, .int x3), (7, .int x7)]) dX11_judged_117 rfl (zc_n1 _) (by decide) rfl (z_goto (pc := 120) hK 39 dX11_judged_120 (by decide) (zsub (lv' := [(0, .ref (G.2.2.2 t0)), (1, .int x1), (2, .int x2), (3, .int x3), (4, .int x7), (5, .int (x5 + 1))]) [2, 3, 4, 5, 1, 0] rfl (hk39 x1 x2 x3 x7 (x5 + 1) h hg)))))
  · rw [if_neg c_13] at hg
    refine z_iload_n (pc := 105) hK 3 dX11_judged_105 rfl (z_iconst (pc := 106) hK dX11_judged_106 zc_im1 (z_icmp_ne (pc := 107) hK 113 dX11_judged_107 (by decide) (fun c_14 => ?_) (fun c_14 => ?_)))
    · rw [if_neg c_14] at hg
      exact z_iload (pc := 113) hK 6 dX11_judged_113 rfl (z_istore (pc := 115) hK (lv' := [(4, .int x7), (0, .ref (G.2.2.2 t0)), (1, .int x1), (2, .int x2), (3, .int x3), (5, .int x5), (7, .int x7)]) dX11_judged_115 (by decide) rfl (z_iinc (pc := 117) hK 5 (lv' := [(5, .int (x5 + 1)), (4, .int x7), (0, .ref (G.2.2.2 t0)), (1, .int x1), (2, .int x2), (3, .int x3), (7, .int x7)]) dX11_judged_117 rfl (zc_n1 _) (by decide) rfl (z_goto (pc := 120) hK 39 dX11_judged_120 (by decide) (zsub (lv' := [(0, .ref (G.2.2.2 t0)), (1, .int x1), (2, .int x2), (3, .int x3), (4, .int x7), (5, .int (x5 + 1))]) [2, 3, 4, 5, 1, 0] rfl (hk39 x1 x2 x3 x7 (x5 + 1) h hg)))))
    · rw [if_pos c_14] at hg
      exact z_iload (pc := 110) hK 5 dX11_judged_110 rfl (z_istore_n (pc := 112) hK (lv' := [(3, .int x5), (0, .ref (G.2.2.2 t0)), (1, .int x1), (2, .int x2), (4, .int x4), (5, .int x5), (7, .int x7)]) dX11_judged_112 (by decide) rfl (z_iload (pc := 113) hK 6 dX11_judged_113 rfl (z_istore (pc := 115) hK (lv' := [(4, .int x7), (3, .int x5), (0, .ref (G.2.2.2 t0)), (1, .int x1), (2, .int x2), (5, .int x5), (7, .int x7)]) dX11_judged_115 (by decide) rfl (z_iinc (pc := 117) hK 5 (lv' := [(5, .int (x5 + 1)), (4, .int x7), (3, .int x5), (0, .ref (G.2.2.2 t0)), (1, .int x1), (2, .int x2), (7, .int x7)]) dX11_judged_117 rfl (zc_n1 _) (by decide) rfl (z_goto (pc := 120) hK 39 dX11_judged_120 (by decide) (zsub (lv' := [(0, .ref (G.2.2.2 t0)), (1, .int x1), (2, .int x2), (3, .int x5), (4, .int x7), (5, .int (x5 + 1))]) [3, 4, 5, 2, 1, 0] rfl (hk39 x1 x2 x5 x7 (x5 + 1) h hg)))))))
set_option maxRecDepth 100000 in
set_option maxHeartbeats 4000000 in
theorem b_X11_judged_39 {K : zK} {G : zG} (hK : zC K G cX11_judged RX11 8 7 157 (some .int)) {t0 : Nat} (ht0 : zT t0 = (10, 0)) {r : Int32 × zH} (hE : zE K G (some (.int r.1)) r.2) : ∀ (n : Nat) (x1 : Int32) (x2 : Int32) (x3 : Int32) (x4 : Int32) (x5 : Int32) (h : zH), g_X11_judged_39 t0 n x1 x2 x3 x4 x5 h = some r → zW K G 8 39 [(0, .ref (G.2.2.2 t0)), (1, .int x1), (2, .int x2), (3, .int x3), (4, .int x4), (5, .int x5)] [] h := by
  intro n
  induction n with
  | zero => intro x1 x2 x3 x4 x5 h hg; exact nomatch (show none = some r from hg)
  | succ n ih =>
    intro x1 x2 x3 x4 x5 h hg
    rw [g_X11_judged_39] at hg
    refine z_iload (pc := 39) hK 5 dX11_judged_39 rfl (z_aload_n (pc := 41) hK 0 dX11_judged_41 rfl (z_getR (pc := 42) hK f_X11_54_10 ht0 dX11_judged_42 (z_getR (pc := 45) hK f_X11_99_2 (zt_10_6 ht0) dX11_judged_45 (z_getI (pc := 48) hK f_X11_195_8 (zt_2_1 (zt_10_6 ht0)) dX11_judged_48 (z_icmp_ge (pc := 51) hK 123 dX11_judged_51 (by decide) (fun c_5 => ?_) (fun c_5 => ?_))))))
    · rw [if_pos c_5] at hg
      refine z_iload_n (pc := 123) hK 1 dX11_judged_123 rfl (z_iconst (pc := 124) hK dX11_judged_124 zc_i2 (z_icmp_ne (pc := 125) hK 131 dX11_judged_125 (by decide) (fun c_6 => ?_) (fun c_6 => ?_)))
      · rw [if_neg c_6] at hg
        refine z_iload_n (pc := 131) hK 1 dX11_judged_131 rfl (z_if_ne (pc := 132) hK 139 dX11_judged_132 (by decide) (fun c_7 => ?_) (fun c_7 => ?_))
        · rw [if_neg c_7] at hg
          exact z_iload_n (pc := 139) hK 3 dX11_judged_139 rfl (z_iretE (pc := 140) hK hE hg dX11_judged_140)
        · rw [if_pos c_7] at hg
          exact z_iload_n (pc := 135) hK 2 dX11_judged_135 rfl (z_goto (pc := 136) hK 140 dX11_judged_136 (by decide) (z_iretE (pc := 140) hK hE hg dX11_judged_140))
      · rw [if_pos c_6] at hg
        exact z_iload (pc := 128) hK 4 dX11_judged_128 rfl (z_iretE (pc := 130) hK hE hg dX11_judged_130)
    · rw [if_neg c_5] at hg
      obtain ⟨c_8, hg⟩ := zgu_some hg
      obtain ⟨v_9, qv_9, hg⟩ := zbind_some hg
      obtain ⟨v_10, qv_10, hg⟩ := zbind_some hg
      refine z_aload_n (pc := 54) hK 0 dX11_judged_54 rfl (z_getR (pc := 55) hK f_X11_48_10 ht0 dX11_judged_55 (z_aload_n (pc := 58) hK 0 dX11_judged_58 rfl (z_getR (pc := 59) hK f_X11_54_10 ht0 dX11_judged_59 (z_getR (pc := 62) hK f_X11_99_2 (zt_10_6 ht0) dX11_judged_62 (z_getR (pc := 65) hK f_X11_198_8 (zt_2_1 (zt_10_6 ht0)) dX11_judged_65 (z_iload (pc := 68) hK 5 dX11_judged_68 rfl (z_iald (pc := 70) hK (zt_8_0 (zt_2_1 (zt_10_6 ht0))) c_8 dX11_judged_70 (z_callVi (pc := 71) hK [.int (h.1 (zR (zR (zR t0 6) 1) 0) (zx x5))] (m_X7_perform (zC_D hK) (zt_10_5 ht0) qv_9) sv_X7_perform q_1055 (zt_10_5 ht0) rfl [] rfl (Nat.le_of_ble_eq_true rfl) ⟨by decide, by decide⟩ dX11_judged_71 (z_istore (pc := 74) hK (lv' := [(6, .int (zb v_9.1)), (0, .ref (G.2.2.2 t0)), (1, .int x1), (2, .int x2), (3, .int x3), (4, .int x4), (5, .int x5)]) dX11_judged_74 (by decide) rfl (z_aload_n (pc := 76) hK 1 dX11_judged_76 rfl (z_getR (pc := 77) hK f_X11_48_10 ht0 dX11_judged_77 (z_callVi (pc := 80) hK [] (m_X7_governor (zC_D hK) (zt_10_5 ht0) qv_10) sv_X7_governor q_909 (zt_10_5 ht0) rfl [] rfl (Nat.le_of_ble_eq_true rfl) ⟨by decide, by decide⟩ dX11_judged_80 (z_istore (pc := 83) hK (lv' := [(7, .int v_10), (6, .int (zb v_9.1)), (0, .ref (G.2.2.2 t0)), (1, .int x1), (2, .int x2), (3, .int x3), (4, .int x4), (5, .int x5)]) dX11_judged_83 (by decide) rfl (z_iload (pc := 85) hK 1 dX11_judged_85 rfl (z_if_ne (pc := 87) hK 98 dX11_judged_87 (by decide) (fun c_11 => ?_) (fun c_11 => ?_))))))))))))))))
      · rw [if_neg c_11] at hg
        exact zsub (lv' := [(0, .ref (G.2.2.2 t0)), (1, .int x1), (2, .int x2), (3, .int x3), (4, .int x4), (5, .int x5), (7, .int v_10)]) [2, 3, 4, 5, 6, 7, 0] rfl (b_X11_judged_98 hK ht0 hE ih x1 x2 x3 x4 x5 v_10 v_9.2 hg)
      · rw [if_pos c_11] at hg
        refine z_iload_n (pc := 90) hK 4 dX11_judged_90 rfl (z_iconst (pc := 91) hK dX11_judged_91 zc_im1 (z_icmp_ne (pc := 92) hK 98 dX11_judged_92 (by decide) (fun c_12 => ?_) (fun c_12 => ?_)))
        · rw [if_neg c_12] at hg
          exact zsub (lv' := [(0, .ref (G.2.2.2 t0)), (1, .int x1), (2, .int x2), (3, .int x3), (4, .int x4), (5, .int x5), (7, .int v_10)]) [2, 3, 4, 5, 6, 7, 0] rfl (b_X11_judged_98 hK ht0 hE ih x1 x2 x3 x4 x5 v_10 v_9.2 hg)
        · rw [if_pos c_12] at hg
          exact z_iload (pc := 95) hK 7 dX11_judged_95 rfl (z_istore_n (pc := 97) hK (lv' := [(2, .int x5), (7, .int v_10), (6, .int (zb v_9.1)), (0, .ref (G.2.2.2 t0)), (1, .int x1), (3, .int x3), (4, .int x4), (5, .int x5)]) dX11_judged_97 (by decide) rfl (zsub (lv' := [(0, .ref (G.2.2.2 t0)), (1, .int x1), (2, .int x5), (3, .int x3), (4, .int x4), (5, .int x5), (7, .int v_10)]) [3, 4, 0, 5, 6, 7, 1] rfl (b_X11_judged_98 hK ht0 hE ih x1 x5 x3 x4 x5 v_10 v_9.2 hg)))
set_option maxRecDepth 100000 in
set_option maxHeartbeats 4000000 in
theorem b_X11_judged {K : zK} {G : zG} (hK : zC K G cX11_judged RX11 8 7 157 (some .int)) {h : zH} {t0 : Nat} {x1 : Int32} (ht0 : zT t0 = (10, 0)) {r : Int32 × zH} (hE : zE K G (some (.int r.1)) r.2) (hg : g_X11_judged h t0 x1 = some r) : zW K G 8 0 [(0, .ref (G.2.2.2 t0)), (1, .int x1)] [] h := by
  rw [g_X11_judged] at hg
  refine z_iload_n (pc := 0) hK 1 dX11_judged_0 rfl (z_if_lt (pc := 1) hK 9 dX11_judged_1 (by decide) (fun c_1 => ?_) (fun c_1 => ?_))
  · rw [if_pos c_1] at hg
    exact z_bipush (pc := 9) hK dX11_judged_9 zc_bm2 (z_iretE (pc := 11) hK hE hg dX11_judged_11)
  · rw [if_neg c_1] at hg
    refine z_iload_n (pc := 4) hK 1 dX11_judged_4 rfl (z_iconst (pc := 5) hK dX11_judged_5 zc_i2 (z_icmp_le (pc := 6) hK 12 dX11_judged_6 (by decide) (fun c_2 => ?_) (fun c_2 => ?_)))
    · rw [if_pos c_2] at hg
      obtain ⟨v_3, qv_3, hg⟩ := zbind_some hg
      obtain ⟨v_4, qv_4, hg⟩ := zbind_some hg
      exact z_iconst (pc := 12) hK dX11_judged_12 zc_im1 (z_istore_n (pc := 13) hK (lv' := [(2, .int (-1)), (0, .ref (G.2.2.2 t0)), (1, .int x1)]) dX11_judged_13 (by decide) rfl (z_iconst (pc := 14) hK dX11_judged_14 zc_im1 (z_istore_n (pc := 15) hK (lv' := [(3, .int (-1)), (2, .int (-1)), (0, .ref (G.2.2.2 t0)), (1, .int x1)]) dX11_judged_15 (by decide) rfl (z_aload_n (pc := 16) hK 2 dX11_judged_16 rfl (z_getR (pc := 17) hK f_X11_48_10 ht0 dX11_judged_17 (z_aload_n (pc := 20) hK 2 dX11_judged_20 rfl (z_getR (pc := 21) hK f_X11_44_10 ht0 dX11_judged_21 (z_callVv (pc := 24) hK [.ref (G.2.2.2 (zR t0 4))] (m_X7_become (zC_D hK) (zt_10_5 ht0) (zt_10_4 ht0) qv_3) sv_X7_become q_1054 (zt_10_5 ht0) rfl [] rfl (Nat.le_of_ble_eq_true rfl) ⟨by decide, by decide⟩ dX11_judged_24 (z_aload_n (pc := 27) hK 2 dX11_judged_27 rfl (z_getR (pc := 28) hK f_X11_48_10 ht0 dX11_judged_28 (z_callVi (pc := 31) hK [] (m_X7_governor (zC_D hK) (zt_10_5 ht0) qv_4) sv_X7_governor q_909 (zt_10_5 ht0) rfl [] rfl (Nat.le_of_ble_eq_true rfl) ⟨by decide, by decide⟩ dX11_judged_31 (z_istore (pc := 34) hK (lv' := [(4, .int v_4), (3, .int (-1)), (2, .int (-1)), (0, .ref (G.2.2.2 t0)), (1, .int x1)]) dX11_judged_34 (by decide) rfl (z_iconst (pc := 36) hK dX11_judged_36 zc_i0 (z_istore (pc := 37) hK (lv' := [(5, .int 0), (4, .int v_4), (3, .int (-1)), (2, .int (-1)), (0, .ref (G.2.2.2 t0)), (1, .int x1)]) dX11_judged_37 (by decide) rfl (zsub (lv' := [(0, .ref (G.2.2.2 t0)), (1, .int x1), (2, .int (-1)), (3, .int (-1)), (4, .int v_4), (5, .int 0)]) [4, 5, 3, 2, 1, 0] rfl (b_X11_judged_39 hK ht0 hE zfu x1 (-1) (-1) v_4 0 v_3 hg))))))))))))))))
    · rw [if_neg c_2] at hg
      exact z_bipush (pc := 9) hK dX11_judged_9 zc_bm2 (z_iretE (pc := 11) hK hE hg dX11_judged_11)
theorem m_X11_judged {l : Launch} {G : zG} (hG : zD G) {h : zH} {t0 : Nat} {x1 : Int32} (ht0 : zT t0 = (10, 0)) {r : Int32 × zH} (hg : g_X11_judged h t0 x1 = some r) : zM l G yX11_judged cX11_judged 8 (some .int) 7 157 [.ref (G.2.2.2 t0), .int x1] h (some (.int r.1)) r.2 :=
  zM_of hG pn_X11 (Nat.le_of_ble_eq_true rfl) (fun K _ hK hE => b_X11_judged hK ht0 hE hg)
theorem dX11_next_0 : decode cX11_next 0 = .ok (.aload_n 0, 1) := by decide +kernel
theorem dX11_next_1 : decode cX11_next 1 = .ok (.getfield 54, 3) := by decide +kernel
theorem dX11_next_4 : decode cX11_next 4 = .ok (.getfield 123, 3) := by decide +kernel
theorem dX11_next_7 : decode cX11_next 7 = .ok (.iload_n 1, 1) := by decide +kernel
theorem dX11_next_8 : decode cX11_next 8 = .ok (.aload_n 0, 1) := by decide +kernel
theorem dX11_next_9 : decode cX11_next 9 = .ok (.getfield 19, 3) := by decide +kernel
theorem dX11_next_12 : decode cX11_next 12 = .ok (.getfield 183, 3) := by decide +kernel
theorem dX11_next_15 : decode cX11_next 15 = .ok (.invokevirtual 204, 3) := by decide +kernel
theorem dX11_next_18 : decode cX11_next 18 = .ok (.ireturn, 1) := by decide +kernel
def g_X11_next (h : zH) (t0 : Nat) (x1 : Int32) : Option Int32 := (g_X7_target h (zR (zR t0 6) 0) x1 (h.1 (zR t0 1) 8)).bind fun v_1 => some v_1
set_option maxRecDepth 100000 in
set_option maxHeartbeats 4000000 in
theorem b_X11_next {K : zK} {G : zG} (hK : zC K G cX11_next RX11 2 3 69 (some .int)) {h : zH} {t0 : Nat} {x1 : Int32} (ht0 : zT t0 = (10, 0)) {r : Int32} (hE : zE K G (some (.int r)) h) (hg : g_X11_next h t0 x1 = some r) : zW K G 2 0 [(0, .ref (G.2.2.2 t0)), (1, .int x1)] [] h := by
  rw [g_X11_next] at hg
  obtain ⟨v_1, qv_1, hg⟩ := zbind_some hg
  exact z_aload_n (pc := 0) hK 0 dX11_next_0 rfl (z_getR (pc := 1) hK f_X11_54_10 ht0 dX11_next_1 (z_getR (pc := 4) hK f_X11_123_2 (zt_10_6 ht0) dX11_next_4 (z_iload_n (pc := 7) hK 1 dX11_next_7 rfl (z_aload_n (pc := 8) hK 0 dX11_next_8 rfl (z_getR (pc := 9) hK f_X11_19_10 ht0 dX11_next_9 (z_getI (pc := 12) hK f_X11_183_4 (zt_10_1 ht0) dX11_next_12 (z_callVi (pc := 15) hK [.int x1, .int (h.1 (zR t0 1) 8)] (m_X7_target (zC_D hK) (zt_2_0 (zt_10_6 ht0)) qv_1) sv_X7_target q_1073 (zt_2_0 (zt_10_6 ht0)) rfl [] rfl (Nat.le_of_ble_eq_true rfl) ⟨by decide, by decide⟩ dX11_next_15 (z_iretP (pc := 18) hK hE hg dX11_next_18))))))))
theorem m_X11_next {l : Launch} {G : zG} (hG : zD G) {h : zH} {t0 : Nat} {x1 : Int32} (ht0 : zT t0 = (10, 0)) {r : Int32} (hg : g_X11_next h t0 x1 = some r) : zM l G yX11_next cX11_next 2 (some .int) 3 69 [.ref (G.2.2.2 t0), .int x1] h (some (.int r)) h :=
  zM_of hG pn_X11 (Nat.le_of_ble_eq_true rfl) (fun K _ hK hE => b_X11_next hK ht0 hE hg)
theorem dX11_bring_0 : decode cX11_bring 0 = .ok (.aload_n 0, 1) := by decide +kernel
theorem dX11_bring_1 : decode cX11_bring 1 = .ok (.getfield 54, 3) := by decide +kernel
theorem dX11_bring_4 : decode cX11_bring 4 = .ok (.getfield 123, 3) := by decide +kernel
theorem dX11_bring_7 : decode cX11_bring 7 = .ok (.iload_n 1, 1) := by decide +kernel
theorem dX11_bring_8 : decode cX11_bring 8 = .ok (.invokevirtual 139, 3) := by decide +kernel
theorem dX11_bring_11 : decode cX11_bring 11 = .ok (.ifCond .ne 5, 3) := by decide +kernel
theorem dX11_bring_14 : decode cX11_bring 14 = .ok (.iconst (-1), 1) := by decide +kernel
theorem dX11_bring_15 : decode cX11_bring 15 = .ok (.ireturn, 1) := by decide +kernel
theorem dX11_bring_16 : decode cX11_bring 16 = .ok (.aload_n 0, 1) := by decide +kernel
theorem dX11_bring_17 : decode cX11_bring 17 = .ok (.getfield 54, 3) := by decide +kernel
theorem dX11_bring_20 : decode cX11_bring 20 = .ok (.getfield 123, 3) := by decide +kernel
theorem dX11_bring_23 : decode cX11_bring 23 = .ok (.iload_n 1, 1) := by decide +kernel
theorem dX11_bring_24 : decode cX11_bring 24 = .ok (.invokevirtual 207, 3) := by decide +kernel
theorem dX11_bring_27 : decode cX11_bring 27 = .ok (.ireturn, 1) := by decide +kernel
def g_X11_bring (h : zH) (t0 : Nat) (x1 : Int32) : Option Int32 := (g_X7_isAlive h (zR (zR t0 6) 0) x1).bind fun v_1 => if (zb v_1) = 0 then (some (-1)) else ((g_X7_votesToBring h (zR (zR t0 6) 0) x1).bind fun v_3 => some v_3)
set_option maxRecDepth 100000 in
set_option maxHeartbeats 4000000 in
theorem b_X11_bring {K : zK} {G : zG} (hK : zC K G cX11_bring RX11 2 4 92 (some .int)) {h : zH} {t0 : Nat} {x1 : Int32} (ht0 : zT t0 = (10, 0)) {r : Int32} (hE : zE K G (some (.int r)) h) (hg : g_X11_bring h t0 x1 = some r) : zW K G 2 0 [(0, .ref (G.2.2.2 t0)), (1, .int x1)] [] h := by
  rw [g_X11_bring] at hg
  obtain ⟨v_1, qv_1, hg⟩ := zbind_some hg
  refine z_aload_n (pc := 0) hK 0 dX11_bring_0 rfl (z_getR (pc := 1) hK f_X11_54_10 ht0 dX11_bring_1 (z_getR (pc := 4) hK f_X11_123_2 (zt_10_6 ht0) dX11_bring_4 (z_iload_n (pc := 7) hK 1 dX11_bring_7 rfl (z_callVi (pc := 8) hK [.int x1] (m_X7_isAlive (zC_D hK) (zt_2_0 (zt_10_6 ht0)) qv_1) sv_X7_isAlive q_891 (zt_2_0 (zt_10_6 ht0)) rfl [] rfl (Nat.le_of_ble_eq_true rfl) ⟨by decide, by decide⟩ dX11_bring_8 (z_if_ne (pc := 11) hK 16 dX11_bring_11 (by decide) (fun c_2 => ?_) (fun c_2 => ?_))))))
  · rw [if_neg c_2] at hg
    obtain ⟨v_3, qv_3, hg⟩ := zbind_some hg
    exact z_aload_n (pc := 16) hK 0 dX11_bring_16 rfl (z_getR (pc := 17) hK f_X11_54_10 ht0 dX11_bring_17 (z_getR (pc := 20) hK f_X11_123_2 (zt_10_6 ht0) dX11_bring_20 (z_iload_n (pc := 23) hK 1 dX11_bring_23 rfl (z_callVi (pc := 24) hK [.int x1] (m_X7_votesToBring (zC_D hK) (zt_2_0 (zt_10_6 ht0)) qv_3) sv_X7_votesToBring q_1078 (zt_2_0 (zt_10_6 ht0)) rfl [] rfl (Nat.le_of_ble_eq_true rfl) ⟨by decide, by decide⟩ dX11_bring_24 (z_iretP (pc := 27) hK hE hg dX11_bring_27)))))
  · rw [if_pos c_2] at hg
    exact z_iconst (pc := 14) hK dX11_bring_14 zc_im1 (z_iretP (pc := 15) hK hE hg dX11_bring_15)
theorem m_X11_bring {l : Launch} {G : zG} (hG : zD G) {h : zH} {t0 : Nat} {x1 : Int32} (ht0 : zT t0 = (10, 0)) {r : Int32} (hg : g_X11_bring h t0 x1 = some r) : zM l G yX11_bring cX11_bring 2 (some .int) 4 92 [.ref (G.2.2.2 t0), .int x1] h (some (.int r)) h :=
  zM_of hG pn_X11 (Nat.le_of_ble_eq_true rfl) (fun K _ hK hE => b_X11_bring hK ht0 hE hg)
theorem dX11_bears_0 : decode cX11_bears 0 = .ok (.aload_n 0, 1) := by decide +kernel
theorem dX11_bears_1 : decode cX11_bears 1 = .ok (.getfield 19, 3) := by decide +kernel
theorem dX11_bears_4 : decode cX11_bears 4 = .ok (.iload_n 1, 1) := by decide +kernel
theorem dX11_bears_5 : decode cX11_bears 5 = .ok (.invokevirtual 109, 3) := by decide +kernel
theorem dX11_bears_8 : decode cX11_bears 8 = .ok (.ifCond .eq 17, 3) := by decide +kernel
theorem dX11_bears_11 : decode cX11_bears 11 = .ok (.aload_n 0, 1) := by decide +kernel
theorem dX11_bears_12 : decode cX11_bears 12 = .ok (.getfield 54, 3) := by decide +kernel
theorem dX11_bears_15 : decode cX11_bears 15 = .ok (.getfield 123, 3) := by decide +kernel
theorem dX11_bears_18 : decode cX11_bears 18 = .ok (.invokevirtual 152, 3) := by decide +kernel
theorem dX11_bears_21 : decode cX11_bears 21 = .ok (.iload_n 1, 1) := by decide +kernel
theorem dX11_bears_22 : decode cX11_bears 22 = .ok (.if_icmp .eq 5, 3) := by decide +kernel
theorem dX11_bears_25 : decode cX11_bears 25 = .ok (.iconst (-1), 1) := by decide +kernel
theorem dX11_bears_26 : decode cX11_bears 26 = .ok (.ireturn, 1) := by decide +kernel
theorem dX11_bears_27 : decode cX11_bears 27 = .ok (.aload_n 0, 1) := by decide +kernel
theorem dX11_bears_28 : decode cX11_bears 28 = .ok (.getfield 54, 3) := by decide +kernel
theorem dX11_bears_31 : decode cX11_bears 31 = .ok (.getfield 123, 3) := by decide +kernel
theorem dX11_bears_34 : decode cX11_bears 34 = .ok (.iload_n 1, 1) := by decide +kernel
theorem dX11_bears_35 : decode cX11_bears 35 = .ok (.invokevirtual 210, 3) := by decide +kernel
theorem dX11_bears_38 : decode cX11_bears 38 = .ok (.ireturn, 1) := by decide +kernel
def g_X11_bears (h : zH) (t0 : Nat) (x1 : Int32) : Option Int32 := (g_X5_has h (zR t0 1) x1).bind fun v_1 => if (zb v_1) = 0 then (some (-1)) else ((g_X7_governor h (zR (zR t0 6) 0)).bind fun v_3 => if v_3 = x1 then ((g_X7_votesToBear h (zR (zR t0 6) 0) x1).bind fun v_5 => some v_5) else (some (-1)))
set_option maxRecDepth 100000 in
set_option maxHeartbeats 4000000 in
theorem b_X11_bears {K : zK} {G : zG} (hK : zC K G cX11_bears RX11 2 4 91 (some .int)) {h : zH} {t0 : Nat} {x1 : Int32} (ht0 : zT t0 = (10, 0)) {r : Int32} (hE : zE K G (some (.int r)) h) (hg : g_X11_bears h t0 x1 = some r) : zW K G 2 0 [(0, .ref (G.2.2.2 t0)), (1, .int x1)] [] h := by
  rw [g_X11_bears] at hg
  obtain ⟨v_1, qv_1, hg⟩ := zbind_some hg
  refine z_aload_n (pc := 0) hK 0 dX11_bears_0 rfl (z_getR (pc := 1) hK f_X11_19_10 ht0 dX11_bears_1 (z_iload_n (pc := 4) hK 1 dX11_bears_4 rfl (z_callVi (pc := 5) hK [.int x1] (m_X5_has (zC_D hK) (zt_10_1 ht0) qv_1) sv_X5_has q_875 (zt_10_1 ht0) rfl [] rfl (Nat.le_of_ble_eq_true rfl) ⟨by decide, by decide⟩ dX11_bears_5 (z_if_eq (pc := 8) hK 25 dX11_bears_8 (by decide) (fun c_2 => ?_) (fun c_2 => ?_)))))
  · rw [if_pos c_2] at hg
    exact z_iconst (pc := 25) hK dX11_bears_25 zc_im1 (z_iretP (pc := 26) hK hE hg dX11_bears_26)
  · rw [if_neg c_2] at hg
    obtain ⟨v_3, qv_3, hg⟩ := zbind_some hg
    refine z_aload_n (pc := 11) hK 0 dX11_bears_11 rfl (z_getR (pc := 12) hK f_X11_54_10 ht0 dX11_bears_12 (z_getR (pc := 15) hK f_X11_123_2 (zt_10_6 ht0) dX11_bears_15 (z_callVi (pc := 18) hK [] (m_X7_governor (zC_D hK) (zt_2_0 (zt_10_6 ht0)) qv_3) sv_X7_governor q_909 (zt_2_0 (zt_10_6 ht0)) rfl [] rfl (Nat.le_of_ble_eq_true rfl) ⟨by decide, by decide⟩ dX11_bears_18 (z_iload_n (pc := 21) hK 1 dX11_bears_21 rfl (z_icmp_eq (pc := 22) hK 27 dX11_bears_22 (by decide) (fun c_4 => ?_) (fun c_4 => ?_))))))
    · rw [if_pos c_4] at hg
      obtain ⟨v_5, qv_5, hg⟩ := zbind_some hg
      exact z_aload_n (pc := 27) hK 0 dX11_bears_27 rfl (z_getR (pc := 28) hK f_X11_54_10 ht0 dX11_bears_28 (z_getR (pc := 31) hK f_X11_123_2 (zt_10_6 ht0) dX11_bears_31 (z_iload_n (pc := 34) hK 1 dX11_bears_34 rfl (z_callVi (pc := 35) hK [.int x1] (m_X7_votesToBear (zC_D hK) (zt_2_0 (zt_10_6 ht0)) qv_5) sv_X7_votesToBear q_1090 (zt_2_0 (zt_10_6 ht0)) rfl [] rfl (Nat.le_of_ble_eq_true rfl) ⟨by decide, by decide⟩ dX11_bears_35 (z_iretP (pc := 38) hK hE hg dX11_bears_38)))))
    · rw [if_neg c_4] at hg
      exact z_iconst (pc := 25) hK dX11_bears_25 zc_im1 (z_iretP (pc := 26) hK hE hg dX11_bears_26)
theorem m_X11_bears {l : Launch} {G : zG} (hG : zD G) {h : zH} {t0 : Nat} {x1 : Int32} (ht0 : zT t0 = (10, 0)) {r : Int32} (hg : g_X11_bears h t0 x1 = some r) : zM l G yX11_bears cX11_bears 2 (some .int) 4 91 [.ref (G.2.2.2 t0), .int x1] h (some (.int r)) h :=
  zM_of hG pn_X11 (Nat.le_of_ble_eq_true rfl) (fun K _ hK hE => b_X11_bears hK ht0 hE hg)
theorem dX11_falls_0 : decode cX11_falls 0 = .ok (.aload_n 0, 1) := by decide +kernel
theorem dX11_falls_1 : decode cX11_falls 1 = .ok (.getfield 54, 3) := by decide +kernel
theorem dX11_falls_4 : decode cX11_falls 4 = .ok (.getfield 123, 3) := by decide +kernel
theorem dX11_falls_7 : decode cX11_falls 7 = .ok (.invokevirtual 152, 3) := by decide +kernel
theorem dX11_falls_10 : decode cX11_falls 10 = .ok (.istore_n 1, 1) := by decide +kernel
theorem dX11_falls_11 : decode cX11_falls 11 = .ok (.iload_n 1, 1) := by decide +kernel
theorem dX11_falls_12 : decode cX11_falls 12 = .ok (.iconst (-1), 1) := by decide +kernel
theorem dX11_falls_13 : decode cX11_falls 13 = .ok (.if_icmp .ne 5, 3) := by decide +kernel
theorem dX11_falls_16 : decode cX11_falls 16 = .ok (.iconst (-1), 1) := by decide +kernel
theorem dX11_falls_17 : decode cX11_falls 17 = .ok (.ireturn, 1) := by decide +kernel
theorem dX11_falls_18 : decode cX11_falls 18 = .ok (.aload_n 0, 1) := by decide +kernel
theorem dX11_falls_19 : decode cX11_falls 19 = .ok (.getfield 48, 3) := by decide +kernel
theorem dX11_falls_22 : decode cX11_falls 22 = .ok (.aload_n 0, 1) := by decide +kernel
theorem dX11_falls_23 : decode cX11_falls 23 = .ok (.getfield 54, 3) := by decide +kernel
theorem dX11_falls_26 : decode cX11_falls 26 = .ok (.getfield 123, 3) := by decide +kernel
theorem dX11_falls_29 : decode cX11_falls 29 = .ok (.invokevirtual 193, 3) := by decide +kernel
theorem dX11_falls_32 : decode cX11_falls 32 = .ok (.iconst 1, 1) := by decide +kernel
theorem dX11_falls_33 : decode cX11_falls 33 = .ok (.istore_n 2, 1) := by decide +kernel
theorem dX11_falls_34 : decode cX11_falls 34 = .ok (.iload_n 2, 1) := by decide +kernel
theorem dX11_falls_35 : decode cX11_falls 35 = .ok (.bipush 40, 2) := by decide +kernel
theorem dX11_falls_37 : decode cX11_falls 37 = .ok (.if_icmp .gt 37, 3) := by decide +kernel
theorem dX11_falls_40 : decode cX11_falls 40 = .ok (.aload_n 0, 1) := by decide +kernel
theorem dX11_falls_41 : decode cX11_falls 41 = .ok (.getfield 48, 3) := by decide +kernel
theorem dX11_falls_44 : decode cX11_falls 44 = .ok (.aload_n 0, 1) := by decide +kernel
theorem dX11_falls_45 : decode cX11_falls 45 = .ok (.getfield 19, 3) := by decide +kernel
theorem dX11_falls_48 : decode cX11_falls 48 = .ok (.getfield 183, 3) := by decide +kernel
theorem dX11_falls_51 : decode cX11_falls 51 = .ok (.invokevirtual 213, 3) := by decide +kernel
theorem dX11_falls_54 : decode cX11_falls 54 = .ok (.pop, 1) := by decide +kernel
theorem dX11_falls_55 : decode cX11_falls 55 = .ok (.aload_n 0, 1) := by decide +kernel
theorem dX11_falls_56 : decode cX11_falls 56 = .ok (.getfield 48, 3) := by decide +kernel
theorem dX11_falls_59 : decode cX11_falls 59 = .ok (.invokevirtual 152, 3) := by decide +kernel
theorem dX11_falls_62 : decode cX11_falls 62 = .ok (.iload_n 1, 1) := by decide +kernel
theorem dX11_falls_63 : decode cX11_falls 63 = .ok (.if_icmp .eq 5, 3) := by decide +kernel
theorem dX11_falls_66 : decode cX11_falls 66 = .ok (.iload_n 2, 1) := by decide +kernel
theorem dX11_falls_67 : decode cX11_falls 67 = .ok (.ireturn, 1) := by decide +kernel
theorem dX11_falls_68 : decode cX11_falls 68 = .ok (.iinc 2 1, 3) := by decide +kernel
theorem dX11_falls_71 : decode cX11_falls 71 = .ok (.goto (-37), 3) := by decide +kernel
theorem dX11_falls_74 : decode cX11_falls 74 = .ok (.iconst (-1), 1) := by decide +kernel
theorem dX11_falls_75 : decode cX11_falls 75 = .ok (.ireturn, 1) := by decide +kernel
def g_X11_falls_34 (t0 : Nat)  : Nat → Int32 → Int32 → zH → Option (Int32 × zH)
  | 0, _, _, _ => none
  | n + 1, x1, x2, h => if 40 < x2 then (some ((-1), h)) else ((g_X7_passTaxedDay h (zR t0 5) (h.1 (zR t0 1) 8)).bind fun v_5 => (g_X7_governor v_5.2 (zR t0 5)).bind fun v_6 => if v_6 = x1 then (g_X11_falls_34 t0 n x1 (x2 + 1) v_5.2) else (some (x2, v_5.2)))
def g_X11_falls (h : zH) (t0 : Nat) : Option (Int32 × zH) := (g_X7_governor h (zR (zR t0 6) 0)).bind fun v_1 => if v_1 = (-1) then (some ((-1), h)) else ((g_X7_become h (zR t0 5) (zR (zR t0 6) 0)).bind fun v_3 => g_X11_falls_34 t0 zfu v_1 1 v_3)
set_option maxRecDepth 100000 in
set_option maxHeartbeats 4000000 in
theorem b_X11_falls_34 {K : zK} {G : zG} (hK : zC K G cX11_falls RX11 3 6 135 (some .int)) {t0 : Nat} (ht0 : zT t0 = (10, 0)) {r : Int32 × zH} (hE : zE K G (some (.int r.1)) r.2) : ∀ (n : Nat) (x1 : Int32) (x2 : Int32) (h : zH), g_X11_falls_34 t0 n x1 x2 h = some r → zW K G 3 34 [(0, .ref (G.2.2.2 t0)), (1, .int x1), (2, .int x2)] [] h := by
  intro n
  induction n with
  | zero => intro x1 x2 h hg; exact nomatch (show none = some r from hg)
  | succ n ih =>
    intro x1 x2 h hg
    rw [g_X11_falls_34] at hg
    refine z_iload_n (pc := 34) hK 2 dX11_falls_34 rfl (z_bipush (pc := 35) hK dX11_falls_35 zc_b40 (z_icmp_gt (pc := 37) hK 74 dX11_falls_37 (by decide) (fun c_4 => ?_) (fun c_4 => ?_)))
    · rw [if_pos c_4] at hg
      exact z_iconst (pc := 74) hK dX11_falls_74 zc_im1 (z_iretE (pc := 75) hK hE hg dX11_falls_75)
    · rw [if_neg c_4] at hg
      obtain ⟨v_5, qv_5, hg⟩ := zbind_some hg
      obtain ⟨v_6, qv_6, hg⟩ := zbind_some hg
      refine z_aload_n (pc := 40) hK 0 dX11_falls_40 rfl (z_getR (pc := 41) hK f_X11_48_10 ht0 dX11_falls_41 (z_aload_n (pc := 44) hK 0 dX11_falls_44 rfl (z_getR (pc := 45) hK f_X11_19_10 ht0 dX11_falls_45 (z_getI (pc := 48) hK f_X11_183_4 (zt_10_1 ht0) dX11_falls_48 (z_callVi (pc := 51) hK [.int (h.1 (zR t0 1) 8)] (m_X7_passTaxedDay (zC_D hK) (zt_10_5 ht0) qv_5) sv_X7_passTaxedDay q_1098 (zt_10_5 ht0) rfl [] rfl (Nat.le_of_ble_eq_true rfl) ⟨by decide, by decide⟩ dX11_falls_51 (z_pop (pc := 54) hK dX11_falls_54 rfl (z_aload_n (pc := 55) hK 0 dX11_falls_55 rfl (z_getR (pc := 56) hK f_X11_48_10 ht0 dX11_falls_56 (z_callVi (pc := 59) hK [] (m_X7_governor (zC_D hK) (zt_10_5 ht0) qv_6) sv_X7_governor q_909 (zt_10_5 ht0) rfl [] rfl (Nat.le_of_ble_eq_true rfl) ⟨by decide, by decide⟩ dX11_falls_59 (z_iload_n (pc := 62) hK 1 dX11_falls_62 rfl (z_icmp_eq (pc := 63) hK 68 dX11_falls_63 (by decide) (fun c_7 => ?_) (fun c_7 => ?_))))))))))))
      · rw [if_pos c_7] at hg
        exact z_iinc (pc := 68) hK 2 (lv' := [(2, .int (x2 + 1)), (0, .ref (G.2.2.2 t0)), (1, .int x1)]) dX11_falls_68 rfl (zc_n1 _) (by decide) rfl (z_goto (pc := 71) hK 34 dX11_falls_71 (by decide) (zsub (lv' := [(0, .ref (G.2.2.2 t0)), (1, .int x1), (2, .int (x2 + 1))]) [1, 2, 0] rfl (ih x1 (x2 + 1) v_5.2 hg)))
      · rw [if_neg c_7] at hg
        exact z_iload_n (pc := 66) hK 2 dX11_falls_66 rfl (z_iretE (pc := 67) hK hE hg dX11_falls_67)
set_option maxRecDepth 100000 in
set_option maxHeartbeats 4000000 in
theorem b_X11_falls {K : zK} {G : zG} (hK : zC K G cX11_falls RX11 3 6 135 (some .int)) {h : zH} {t0 : Nat} (ht0 : zT t0 = (10, 0)) {r : Int32 × zH} (hE : zE K G (some (.int r.1)) r.2) (hg : g_X11_falls h t0 = some r) : zW K G 3 0 [(0, .ref (G.2.2.2 t0))] [] h := by
  rw [g_X11_falls] at hg
  obtain ⟨v_1, qv_1, hg⟩ := zbind_some hg
  refine z_aload_n (pc := 0) hK 0 dX11_falls_0 rfl (z_getR (pc := 1) hK f_X11_54_10 ht0 dX11_falls_1 (z_getR (pc := 4) hK f_X11_123_2 (zt_10_6 ht0) dX11_falls_4 (z_callVi (pc := 7) hK [] (m_X7_governor (zC_D hK) (zt_2_0 (zt_10_6 ht0)) qv_1) sv_X7_governor q_909 (zt_2_0 (zt_10_6 ht0)) rfl [] rfl (Nat.le_of_ble_eq_true rfl) ⟨by decide, by decide⟩ dX11_falls_7 (z_istore_n (pc := 10) hK (lv' := [(1, .int v_1), (0, .ref (G.2.2.2 t0))]) dX11_falls_10 (by decide) rfl (z_iload_n (pc := 11) hK 0 dX11_falls_11 rfl (z_iconst (pc := 12) hK dX11_falls_12 zc_im1 (z_icmp_ne (pc := 13) hK 18 dX11_falls_13 (by decide) (fun c_2 => ?_) (fun c_2 => ?_))))))))
  · rw [if_neg c_2] at hg
    obtain ⟨v_3, qv_3, hg⟩ := zbind_some hg
    exact z_aload_n (pc := 18) hK 1 dX11_falls_18 rfl (z_getR (pc := 19) hK f_X11_48_10 ht0 dX11_falls_19 (z_aload_n (pc := 22) hK 1 dX11_falls_22 rfl (z_getR (pc := 23) hK f_X11_54_10 ht0 dX11_falls_23 (z_getR (pc := 26) hK f_X11_123_2 (zt_10_6 ht0) dX11_falls_26 (z_callVv (pc := 29) hK [.ref (G.2.2.2 (zR (zR t0 6) 0))] (m_X7_become (zC_D hK) (zt_10_5 ht0) (zt_2_0 (zt_10_6 ht0)) qv_3) sv_X7_become q_1054 (zt_10_5 ht0) rfl [] rfl (Nat.le_of_ble_eq_true rfl) ⟨by decide, by decide⟩ dX11_falls_29 (z_iconst (pc := 32) hK dX11_falls_32 zc_i1 (z_istore_n (pc := 33) hK (lv' := [(2, .int 1), (1, .int v_1), (0, .ref (G.2.2.2 t0))]) dX11_falls_33 (by decide) rfl (zsub (lv' := [(0, .ref (G.2.2.2 t0)), (1, .int v_1), (2, .int 1)]) [2, 1, 0] rfl (b_X11_falls_34 hK ht0 hE zfu v_1 1 v_3 hg)))))))))
  · rw [if_pos c_2] at hg
    exact z_iconst (pc := 16) hK dX11_falls_16 zc_im1 (z_iretE (pc := 17) hK hE hg dX11_falls_17)
theorem m_X11_falls {l : Launch} {G : zG} (hG : zD G) {h : zH} {t0 : Nat} (ht0 : zT t0 = (10, 0)) {r : Int32 × zH} (hg : g_X11_falls h t0 = some r) : zM l G yX11_falls cX11_falls 3 (some .int) 6 135 [.ref (G.2.2.2 t0)] h (some (.int r.1)) r.2 :=
  zM_of hG pn_X11 (Nat.le_of_ble_eq_true rfl) (fun K _ hK hE => b_X11_falls hK ht0 hE hg)
theorem dX11_quiets_0 : decode cX11_quiets 0 = .ok (.aload_n 0, 1) := by decide +kernel
theorem dX11_quiets_1 : decode cX11_quiets 1 = .ok (.getfield 48, 3) := by decide +kernel
theorem dX11_quiets_4 : decode cX11_quiets 4 = .ok (.aload_n 0, 1) := by decide +kernel
theorem dX11_quiets_5 : decode cX11_quiets 5 = .ok (.getfield 54, 3) := by decide +kernel
theorem dX11_quiets_8 : decode cX11_quiets 8 = .ok (.getfield 123, 3) := by decide +kernel
theorem dX11_quiets_11 : decode cX11_quiets 11 = .ok (.invokevirtual 193, 3) := by decide +kernel
theorem dX11_quiets_14 : decode cX11_quiets 14 = .ok (.iconst 0, 1) := by decide +kernel
theorem dX11_quiets_15 : decode cX11_quiets 15 = .ok (.istore_n 1, 1) := by decide +kernel
theorem dX11_quiets_16 : decode cX11_quiets 16 = .ok (.iconst 0, 1) := by decide +kernel
theorem dX11_quiets_17 : decode cX11_quiets 17 = .ok (.istore_n 2, 1) := by decide +kernel
theorem dX11_quiets_18 : decode cX11_quiets 18 = .ok (.iload_n 2, 1) := by decide +kernel
theorem dX11_quiets_19 : decode cX11_quiets 19 = .ok (.aload_n 0, 1) := by decide +kernel
theorem dX11_quiets_20 : decode cX11_quiets 20 = .ok (.getfield 19, 3) := by decide +kernel
theorem dX11_quiets_23 : decode cX11_quiets 23 = .ok (.getfield 216, 3) := by decide +kernel
theorem dX11_quiets_26 : decode cX11_quiets 26 = .ok (.if_icmp .ge 52, 3) := by decide +kernel
theorem dX11_quiets_29 : decode cX11_quiets 29 = .ok (.iconst 0, 1) := by decide +kernel
theorem dX11_quiets_30 : decode cX11_quiets 30 = .ok (.istore_n 3, 1) := by decide +kernel
theorem dX11_quiets_31 : decode cX11_quiets 31 = .ok (.iload_n 3, 1) := by decide +kernel
theorem dX11_quiets_32 : decode cX11_quiets 32 = .ok (.aload_n 0, 1) := by decide +kernel
theorem dX11_quiets_33 : decode cX11_quiets 33 = .ok (.getfield 19, 3) := by decide +kernel
theorem dX11_quiets_36 : decode cX11_quiets 36 = .ok (.getfield 216, 3) := by decide +kernel
theorem dX11_quiets_39 : decode cX11_quiets 39 = .ok (.if_icmp .ge 33, 3) := by decide +kernel
theorem dX11_quiets_42 : decode cX11_quiets 42 = .ok (.aload_n 0, 1) := by decide +kernel
theorem dX11_quiets_43 : decode cX11_quiets 43 = .ok (.getfield 48, 3) := by decide +kernel
theorem dX11_quiets_46 : decode cX11_quiets 46 = .ok (.iload_n 2, 1) := by decide +kernel
theorem dX11_quiets_47 : decode cX11_quiets 47 = .ok (.iload_n 3, 1) := by decide +kernel
theorem dX11_quiets_48 : decode cX11_quiets 48 = .ok (.invokevirtual 219, 3) := by decide +kernel
theorem dX11_quiets_51 : decode cX11_quiets 51 = .ok (.istore 4, 2) := by decide +kernel
theorem dX11_quiets_53 : decode cX11_quiets 53 = .ok (.iload 4, 2) := by decide +kernel
theorem dX11_quiets_55 : decode cX11_quiets 55 = .ok (.iconst (-1), 1) := by decide +kernel
theorem dX11_quiets_56 : decode cX11_quiets 56 = .ok (.if_icmp .ne 5, 3) := by decide +kernel
theorem dX11_quiets_59 : decode cX11_quiets 59 = .ok (.iconst (-1), 1) := by decide +kernel
theorem dX11_quiets_60 : decode cX11_quiets 60 = .ok (.ireturn, 1) := by decide +kernel
theorem dX11_quiets_61 : decode cX11_quiets 61 = .ok (.iload_n 1, 1) := by decide +kernel
theorem dX11_quiets_62 : decode cX11_quiets 62 = .ok (.iload 4, 2) := by decide +kernel
theorem dX11_quiets_64 : decode cX11_quiets 64 = .ok (.iadd, 1) := by decide +kernel
theorem dX11_quiets_65 : decode cX11_quiets 65 = .ok (.istore_n 1, 1) := by decide +kernel
theorem dX11_quiets_66 : decode cX11_quiets 66 = .ok (.iinc 3 1, 3) := by decide +kernel
theorem dX11_quiets_69 : decode cX11_quiets 69 = .ok (.goto (-38), 3) := by decide +kernel
theorem dX11_quiets_72 : decode cX11_quiets 72 = .ok (.iinc 2 1, 3) := by decide +kernel
theorem dX11_quiets_75 : decode cX11_quiets 75 = .ok (.goto (-57), 3) := by decide +kernel
theorem dX11_quiets_78 : decode cX11_quiets 78 = .ok (.iload_n 1, 1) := by decide +kernel
theorem dX11_quiets_79 : decode cX11_quiets 79 = .ok (.ireturn, 1) := by decide +kernel
def g_X11_quiets_31 (t0 : Nat) (k18 : Int32 → Int32 → zH → Option (Int32 × zH)) : Nat → Int32 → Int32 → Int32 → zH → Option (Int32 × zH)
  | 0, _, _, _, _ => none
  | n + 1, x1, x2, x3, h => if (h.1 (zR t0 1) 7) ≤ x3 then (k18 x1 (x2 + 1) h) else ((g_X7_giftsToQuiet h (zR t0 5) x2 x3).bind fun v_4 => if v_4.1 = (-1) then (some ((-1), v_4.2)) else (g_X11_quiets_31 t0 k18 n (x1 + v_4.1) x2 (x3 + 1) v_4.2))
def g_X11_quiets_18 (t0 : Nat)  : Nat → Int32 → Int32 → zH → Option (Int32 × zH)
  | 0, _, _, _ => none
  | n + 1, x1, x2, h => if (h.1 (zR t0 1) 7) ≤ x2 then (some (x1, h)) else (g_X11_quiets_31 t0 (g_X11_quiets_18 t0 n) zfu x1 x2 0 h)
def g_X11_quiets (h : zH) (t0 : Nat) : Option (Int32 × zH) := (g_X7_become h (zR t0 5) (zR (zR t0 6) 0)).bind fun v_1 => g_X11_quiets_18 t0 zfu 0 0 v_1
set_option maxRecDepth 100000 in
set_option maxHeartbeats 4000000 in
theorem b_X11_quiets_31 {K : zK} {G : zG} (hK : zC K G cX11_quiets RX11 5 5 117 (some .int)) {t0 : Nat} (ht0 : zT t0 = (10, 0)) {r : Int32 × zH} (hE : zE K G (some (.int r.1)) r.2) {k18 : Int32 → Int32 → zH → Option (Int32 × zH)} (hk18 : ∀ (x1 : Int32) (x2 : Int32) (h : zH), k18 x1 x2 h = some r → zW K G 5 18 [(0, .ref (G.2.2.2 t0)), (1, .int x1), (2, .int x2)] [] h) : ∀ (n : Nat) (x1 : Int32) (x2 : Int32) (x3 : Int32) (h : zH), g_X11_quiets_31 t0 k18 n x1 x2 x3 h = some r → zW K G 5 31 [(0, .ref (G.2.2.2 t0)), (1, .int x1), (2, .int x2), (3, .int x3)] [] h := by
  intro n
  induction n with
  | zero => intro x1 x2 x3 h hg; exact nomatch (show none = some r from hg)
  | succ n ih =>
    intro x1 x2 x3 h hg
    rw [g_X11_quiets_31] at hg
    refine z_iload_n (pc := 31) hK 3 dX11_quiets_31 rfl (z_aload_n (pc := 32) hK 0 dX11_quiets_32 rfl (z_getR (pc := 33) hK f_X11_19_10 ht0 dX11_quiets_33 (z_getI (pc := 36) hK f_X11_216_4 (zt_10_1 ht0) dX11_quiets_36 (z_icmp_ge (pc := 39) hK 72 dX11_quiets_39 (by decide) (fun c_3 => ?_) (fun c_3 => ?_)))))
    · rw [if_pos c_3] at hg
      exact z_iinc (pc := 72) hK 2 (lv' := [(2, .int (x2 + 1)), (0, .ref (G.2.2.2 t0)), (1, .int x1), (3, .int x3)]) dX11_quiets_72 rfl (zc_n1 _) (by decide) rfl (z_goto (pc := 75) hK 18 dX11_quiets_75 (by decide) (zsub (lv' := [(0, .ref (G.2.2.2 t0)), (1, .int x1), (2, .int (x2 + 1))]) [1, 2, 0] rfl (hk18 x1 (x2 + 1) h hg)))
    · rw [if_neg c_3] at hg
      obtain ⟨v_4, qv_4, hg⟩ := zbind_some hg
      refine z_aload_n (pc := 42) hK 0 dX11_quiets_42 rfl (z_getR (pc := 43) hK f_X11_48_10 ht0 dX11_quiets_43 (z_iload_n (pc := 46) hK 2 dX11_quiets_46 rfl (z_iload_n (pc := 47) hK 3 dX11_quiets_47 rfl (z_callVi (pc := 48) hK [.int x2, .int x3] (m_X7_giftsToQuiet (zC_D hK) (zt_10_5 ht0) qv_4) sv_X7_giftsToQuiet q_1106 (zt_10_5 ht0) rfl [] rfl (Nat.le_of_ble_eq_true rfl) ⟨by decide, by decide⟩ dX11_quiets_48 (z_istore (pc := 51) hK (lv' := [(4, .int v_4.1), (0, .ref (G.2.2.2 t0)), (1, .int x1), (2, .int x2), (3, .int x3)]) dX11_quiets_51 (by decide) rfl (z_iload (pc := 53) hK 0 dX11_quiets_53 rfl (z_iconst (pc := 55) hK dX11_quiets_55 zc_im1 (z_icmp_ne (pc := 56) hK 61 dX11_quiets_56 (by decide) (fun c_5 => ?_) (fun c_5 => ?_)))))))))
      · rw [if_neg c_5] at hg
        exact z_iload_n (pc := 61) hK 2 dX11_quiets_61 rfl (z_iload (pc := 62) hK 0 dX11_quiets_62 rfl (z_iadd (pc := 64) hK dX11_quiets_64 (z_istore_n (pc := 65) hK (lv' := [(1, .int (x1 + v_4.1)), (4, .int v_4.1), (0, .ref (G.2.2.2 t0)), (2, .int x2), (3, .int x3)]) dX11_quiets_65 (by decide) rfl (z_iinc (pc := 66) hK 4 (lv' := [(3, .int (x3 + 1)), (1, .int (x1 + v_4.1)), (4, .int v_4.1), (0, .ref (G.2.2.2 t0)), (2, .int x2)]) dX11_quiets_66 rfl (zc_n1 _) (by decide) rfl (z_goto (pc := 69) hK 31 dX11_quiets_69 (by decide) (zsub (lv' := [(0, .ref (G.2.2.2 t0)), (1, .int (x1 + v_4.1)), (2, .int x2), (3, .int (x3 + 1))]) [3, 1, 4, 0] rfl (ih (x1 + v_4.1) x2 (x3 + 1) v_4.2 hg)))))))
      · rw [if_pos c_5] at hg
        exact z_iconst (pc := 59) hK dX11_quiets_59 zc_im1 (z_iretE (pc := 60) hK hE hg dX11_quiets_60)
set_option maxRecDepth 100000 in
set_option maxHeartbeats 4000000 in
theorem b_X11_quiets_18 {K : zK} {G : zG} (hK : zC K G cX11_quiets RX11 5 5 117 (some .int)) {t0 : Nat} (ht0 : zT t0 = (10, 0)) {r : Int32 × zH} (hE : zE K G (some (.int r.1)) r.2) : ∀ (n : Nat) (x1 : Int32) (x2 : Int32) (h : zH), g_X11_quiets_18 t0 n x1 x2 h = some r → zW K G 5 18 [(0, .ref (G.2.2.2 t0)), (1, .int x1), (2, .int x2)] [] h := by
  intro n
  induction n with
  | zero => intro x1 x2 h hg; exact nomatch (show none = some r from hg)
  | succ n ih =>
    intro x1 x2 h hg
    rw [g_X11_quiets_18] at hg
    refine z_iload_n (pc := 18) hK 2 dX11_quiets_18 rfl (z_aload_n (pc := 19) hK 0 dX11_quiets_19 rfl (z_getR (pc := 20) hK f_X11_19_10 ht0 dX11_quiets_20 (z_getI (pc := 23) hK f_X11_216_4 (zt_10_1 ht0) dX11_quiets_23 (z_icmp_ge (pc := 26) hK 78 dX11_quiets_26 (by decide) (fun c_2 => ?_) (fun c_2 => ?_)))))
    · rw [if_pos c_2] at hg
      exact z_iload_n (pc := 78) hK 1 dX11_quiets_78 rfl (z_iretE (pc := 79) hK hE hg dX11_quiets_79)
    · rw [if_neg c_2] at hg
      exact z_iconst (pc := 29) hK dX11_quiets_29 zc_i0 (z_istore_n (pc := 30) hK (lv' := [(3, .int 0), (0, .ref (G.2.2.2 t0)), (1, .int x1), (2, .int x2)]) dX11_quiets_30 (by decide) rfl (zsub (lv' := [(0, .ref (G.2.2.2 t0)), (1, .int x1), (2, .int x2), (3, .int 0)]) [1, 2, 3, 0] rfl (b_X11_quiets_31 hK ht0 hE ih zfu x1 x2 0 h hg)))
set_option maxRecDepth 100000 in
set_option maxHeartbeats 4000000 in
theorem b_X11_quiets {K : zK} {G : zG} (hK : zC K G cX11_quiets RX11 5 5 117 (some .int)) {h : zH} {t0 : Nat} (ht0 : zT t0 = (10, 0)) {r : Int32 × zH} (hE : zE K G (some (.int r.1)) r.2) (hg : g_X11_quiets h t0 = some r) : zW K G 5 0 [(0, .ref (G.2.2.2 t0))] [] h := by
  rw [g_X11_quiets] at hg
  obtain ⟨v_1, qv_1, hg⟩ := zbind_some hg
  exact z_aload_n (pc := 0) hK 0 dX11_quiets_0 rfl (z_getR (pc := 1) hK f_X11_48_10 ht0 dX11_quiets_1 (z_aload_n (pc := 4) hK 0 dX11_quiets_4 rfl (z_getR (pc := 5) hK f_X11_54_10 ht0 dX11_quiets_5 (z_getR (pc := 8) hK f_X11_123_2 (zt_10_6 ht0) dX11_quiets_8 (z_callVv (pc := 11) hK [.ref (G.2.2.2 (zR (zR t0 6) 0))] (m_X7_become (zC_D hK) (zt_10_5 ht0) (zt_2_0 (zt_10_6 ht0)) qv_1) sv_X7_become q_1054 (zt_10_5 ht0) rfl [] rfl (Nat.le_of_ble_eq_true rfl) ⟨by decide, by decide⟩ dX11_quiets_11 (z_iconst (pc := 14) hK dX11_quiets_14 zc_i0 (z_istore_n (pc := 15) hK (lv' := [(1, .int 0), (0, .ref (G.2.2.2 t0))]) dX11_quiets_15 (by decide) rfl (z_iconst (pc := 16) hK dX11_quiets_16 zc_i0 (z_istore_n (pc := 17) hK (lv' := [(2, .int 0), (1, .int 0), (0, .ref (G.2.2.2 t0))]) dX11_quiets_17 (by decide) rfl (zsub (lv' := [(0, .ref (G.2.2.2 t0)), (1, .int 0), (2, .int 0)]) [2, 1, 0] rfl (b_X11_quiets_18 hK ht0 hE zfu 0 0 v_1 hg)))))))))))
theorem m_X11_quiets {l : Launch} {G : zG} (hG : zD G) {h : zH} {t0 : Nat} (ht0 : zT t0 = (10, 0)) {r : Int32 × zH} (hg : g_X11_quiets h t0 = some r) : zM l G yX11_quiets cX11_quiets 5 (some .int) 5 117 [.ref (G.2.2.2 t0)] h (some (.int r.1)) r.2 :=
  zM_of hG pn_X11 (Nat.le_of_ble_eq_true rfl) (fun K _ hK hE => b_X11_quiets hK ht0 hE hg)
theorem dX11_should_0 : decode cX11_should 0 = .ok (.iconst 0, 1) := by decide +kernel
theorem dX11_should_1 : decode cX11_should 1 = .ok (.istore_n 2, 1) := by decide +kernel
theorem dX11_should_2 : decode cX11_should 2 = .ok (.iload_n 2, 1) := by decide +kernel
theorem dX11_should_3 : decode cX11_should 3 = .ok (.aload_n 0, 1) := by decide +kernel
theorem dX11_should_4 : decode cX11_should 4 = .ok (.getfield 19, 3) := by decide +kernel
theorem dX11_should_7 : decode cX11_should 7 = .ok (.getfield 216, 3) := by decide +kernel
theorem dX11_should_10 : decode cX11_should 10 = .ok (.if_icmp .ge 60, 3) := by decide +kernel
theorem dX11_should_13 : decode cX11_should 13 = .ok (.aload_n 0, 1) := by decide +kernel
theorem dX11_should_14 : decode cX11_should 14 = .ok (.getfield 54, 3) := by decide +kernel
theorem dX11_should_17 : decode cX11_should 17 = .ok (.getfield 123, 3) := by decide +kernel
theorem dX11_should_20 : decode cX11_should 20 = .ok (.iload_n 1, 1) := by decide +kernel
theorem dX11_should_21 : decode cX11_should 21 = .ok (.iload_n 2, 1) := by decide +kernel
theorem dX11_should_22 : decode cX11_should 22 = .ok (.invokevirtual 173, 3) := by decide +kernel
theorem dX11_should_25 : decode cX11_should 25 = .ok (.ifCond .eq 39, 3) := by decide +kernel
theorem dX11_should_28 : decode cX11_should 28 = .ok (.aload_n 0, 1) := by decide +kernel
theorem dX11_should_29 : decode cX11_should 29 = .ok (.getfield 48, 3) := by decide +kernel
theorem dX11_should_32 : decode cX11_should 32 = .ok (.aload_n 0, 1) := by decide +kernel
theorem dX11_should_33 : decode cX11_should 33 = .ok (.getfield 54, 3) := by decide +kernel
theorem dX11_should_36 : decode cX11_should 36 = .ok (.getfield 123, 3) := by decide +kernel
theorem dX11_should_39 : decode cX11_should 39 = .ok (.invokevirtual 193, 3) := by decide +kernel
theorem dX11_should_42 : decode cX11_should 42 = .ok (.aload_n 0, 1) := by decide +kernel
theorem dX11_should_43 : decode cX11_should 43 = .ok (.getfield 48, 3) := by decide +kernel
theorem dX11_should_46 : decode cX11_should 46 = .ok (.iload_n 1, 1) := by decide +kernel
theorem dX11_should_47 : decode cX11_should 47 = .ok (.iload_n 2, 1) := by decide +kernel
theorem dX11_should_48 : decode cX11_should 48 = .ok (.invokevirtual 176, 3) := by decide +kernel
theorem dX11_should_51 : decode cX11_should 51 = .ok (.aload_n 0, 1) := by decide +kernel
theorem dX11_should_52 : decode cX11_should 52 = .ok (.getfield 48, 3) := by decide +kernel
theorem dX11_should_55 : decode cX11_should 55 = .ok (.invokevirtual 152, 3) := by decide +kernel
theorem dX11_should_58 : decode cX11_should 58 = .ok (.iload_n 1, 1) := by decide +kernel
theorem dX11_should_59 : decode cX11_should 59 = .ok (.if_icmp .ne 5, 3) := by decide +kernel
theorem dX11_should_62 : decode cX11_should 62 = .ok (.iload_n 2, 1) := by decide +kernel
theorem dX11_should_63 : decode cX11_should 63 = .ok (.ireturn, 1) := by decide +kernel
theorem dX11_should_64 : decode cX11_should 64 = .ok (.iinc 2 1, 3) := by decide +kernel
theorem dX11_should_67 : decode cX11_should 67 = .ok (.goto (-65), 3) := by decide +kernel
theorem dX11_should_70 : decode cX11_should 70 = .ok (.iconst (-1), 1) := by decide +kernel
theorem dX11_should_71 : decode cX11_should 71 = .ok (.ireturn, 1) := by decide +kernel
def g_X11_should_2 (t0 : Nat)  : Nat → Int32 → Int32 → zH → Option (Int32 × zH)
  | 0, _, _, _ => none
  | n + 1, x1, x2, h => if (h.1 (zR t0 1) 7) ≤ x2 then (some ((-1), h)) else ((g_X7_canVote h (zR (zR t0 6) 0) x1 x2).bind fun v_2 => if (zb v_2) = 0 then (g_X11_should_2 t0 n x1 (x2 + 1) h) else ((g_X7_become h (zR t0 5) (zR (zR t0 6) 0)).bind fun v_4 => (g_X7_vote v_4 (zR t0 5) x1 x2).bind fun v_5 => (g_X7_governor v_5 (zR t0 5)).bind fun v_6 => if v_6 = x1 then (some (x2, v_5)) else (g_X11_should_2 t0 n x1 (x2 + 1) v_5)))
def g_X11_should (h : zH) (t0 : Nat) (x1 : Int32) : Option (Int32 × zH) := g_X11_should_2 t0 zfu x1 0 h
set_option maxRecDepth 100000 in
set_option maxHeartbeats 4000000 in
theorem b_X11_should_2 {K : zK} {G : zG} (hK : zC K G cX11_should RX11 3 4 89 (some .int)) {t0 : Nat} (ht0 : zT t0 = (10, 0)) {r : Int32 × zH} (hE : zE K G (some (.int r.1)) r.2) : ∀ (n : Nat) (x1 : Int32) (x2 : Int32) (h : zH), g_X11_should_2 t0 n x1 x2 h = some r → zW K G 3 2 [(0, .ref (G.2.2.2 t0)), (1, .int x1), (2, .int x2)] [] h := by
  intro n
  induction n with
  | zero => intro x1 x2 h hg; exact nomatch (show none = some r from hg)
  | succ n ih =>
    intro x1 x2 h hg
    rw [g_X11_should_2] at hg
    refine z_iload_n (pc := 2) hK 2 dX11_should_2 rfl (z_aload_n (pc := 3) hK 0 dX11_should_3 rfl (z_getR (pc := 4) hK f_X11_19_10 ht0 dX11_should_4 (z_getI (pc := 7) hK f_X11_216_4 (zt_10_1 ht0) dX11_should_7 (z_icmp_ge (pc := 10) hK 70 dX11_should_10 (by decide) (fun c_1 => ?_) (fun c_1 => ?_)))))
    · rw [if_pos c_1] at hg
      exact z_iconst (pc := 70) hK dX11_should_70 zc_im1 (z_iretE (pc := 71) hK hE hg dX11_should_71)
    · rw [if_neg c_1] at hg
      obtain ⟨v_2, qv_2, hg⟩ := zbind_some hg
      refine z_aload_n (pc := 13) hK 0 dX11_should_13 rfl (z_getR (pc := 14) hK f_X11_54_10 ht0 dX11_should_14 (z_getR (pc := 17) hK f_X11_123_2 (zt_10_6 ht0) dX11_should_17 (z_iload_n (pc := 20) hK 1 dX11_should_20 rfl (z_iload_n (pc := 21) hK 2 dX11_should_21 rfl (z_callVi (pc := 22) hK [.int x1, .int x2] (m_X7_canVote (zC_D hK) (zt_2_0 (zt_10_6 ht0)) qv_2) sv_X7_canVote q_999 (zt_2_0 (zt_10_6 ht0)) rfl [] rfl (Nat.le_of_ble_eq_true rfl) ⟨by decide, by decide⟩ dX11_should_22 (z_if_eq (pc := 25) hK 64 dX11_should_25 (by decide) (fun c_3 => ?_) (fun c_3 => ?_)))))))
      · rw [if_pos c_3] at hg
        exact z_iinc (pc := 64) hK 2 (lv' := [(2, .int (x2 + 1)), (0, .ref (G.2.2.2 t0)), (1, .int x1)]) dX11_should_64 rfl (zc_n1 _) (by decide) rfl (z_goto (pc := 67) hK 2 dX11_should_67 (by decide) (zsub (lv' := [(0, .ref (G.2.2.2 t0)), (1, .int x1), (2, .int (x2 + 1))]) [1, 2, 0] rfl (ih x1 (x2 + 1) h hg)))
      · rw [if_neg c_3] at hg
        obtain ⟨v_4, qv_4, hg⟩ := zbind_some hg
        obtain ⟨v_5, qv_5, hg⟩ := zbind_some hg
        obtain ⟨v_6, qv_6, hg⟩ := zbind_some hg
        refine z_aload_n (pc := 28) hK 0 dX11_should_28 rfl (z_getR (pc := 29) hK f_X11_48_10 ht0 dX11_should_29 (z_aload_n (pc := 32) hK 0 dX11_should_32 rfl (z_getR (pc := 33) hK f_X11_54_10 ht0 dX11_should_33 (z_getR (pc := 36) hK f_X11_123_2 (zt_10_6 ht0) dX11_should_36 (z_callVv (pc := 39) hK [.ref (G.2.2.2 (zR (zR t0 6) 0))] (m_X7_become (zC_D hK) (zt_10_5 ht0) (zt_2_0 (zt_10_6 ht0)) qv_4) sv_X7_become q_1054 (zt_10_5 ht0) rfl [] rfl (Nat.le_of_ble_eq_true rfl) ⟨by decide, by decide⟩ dX11_should_39 (z_aload_n (pc := 42) hK 0 dX11_should_42 rfl (z_getR (pc := 43) hK f_X11_48_10 ht0 dX11_should_43 (z_iload_n (pc := 46) hK 1 dX11_should_46 rfl (z_iload_n (pc := 47) hK 2 dX11_should_47 rfl (z_callVv (pc := 48) hK [.int x1, .int x2] (m_X7_vote (zC_D hK) (zt_10_5 ht0) qv_5) sv_X7_vote q_1004 (zt_10_5 ht0) rfl [] rfl (Nat.le_of_ble_eq_true rfl) ⟨by decide, by decide⟩ dX11_should_48 (z_aload_n (pc := 51) hK 0 dX11_should_51 rfl (z_getR (pc := 52) hK f_X11_48_10 ht0 dX11_should_52 (z_callVi (pc := 55) hK [] (m_X7_governor (zC_D hK) (zt_10_5 ht0) qv_6) sv_X7_governor q_909 (zt_10_5 ht0) rfl [] rfl (Nat.le_of_ble_eq_true rfl) ⟨by decide, by decide⟩ dX11_should_55 (z_iload_n (pc := 58) hK 1 dX11_should_58 rfl (z_icmp_ne (pc := 59) hK 64 dX11_should_59 (by decide) (fun c_7 => ?_) (fun c_7 => ?_))))))))))))))))
        · rw [if_neg c_7] at hg
          exact z_iinc (pc := 64) hK 2 (lv' := [(2, .int (x2 + 1)), (0, .ref (G.2.2.2 t0)), (1, .int x1)]) dX11_should_64 rfl (zc_n1 _) (by decide) rfl (z_goto (pc := 67) hK 2 dX11_should_67 (by decide) (zsub (lv' := [(0, .ref (G.2.2.2 t0)), (1, .int x1), (2, .int (x2 + 1))]) [1, 2, 0] rfl (ih x1 (x2 + 1) v_5 hg)))
        · rw [if_pos c_7] at hg
          exact z_iload_n (pc := 62) hK 2 dX11_should_62 rfl (z_iretE (pc := 63) hK hE hg dX11_should_63)
set_option maxRecDepth 100000 in
set_option maxHeartbeats 4000000 in
theorem b_X11_should {K : zK} {G : zG} (hK : zC K G cX11_should RX11 3 4 89 (some .int)) {h : zH} {t0 : Nat} {x1 : Int32} (ht0 : zT t0 = (10, 0)) {r : Int32 × zH} (hE : zE K G (some (.int r.1)) r.2) (hg : g_X11_should h t0 x1 = some r) : zW K G 3 0 [(0, .ref (G.2.2.2 t0)), (1, .int x1)] [] h := by
  rw [g_X11_should] at hg
  exact z_iconst (pc := 0) hK dX11_should_0 zc_i0 (z_istore_n (pc := 1) hK (lv' := [(2, .int 0), (0, .ref (G.2.2.2 t0)), (1, .int x1)]) dX11_should_1 (by decide) rfl (zsub (lv' := [(0, .ref (G.2.2.2 t0)), (1, .int x1), (2, .int 0)]) [1, 2, 0] rfl (b_X11_should_2 hK ht0 hE zfu x1 0 h hg)))
theorem m_X11_should {l : Launch} {G : zG} (hG : zD G) {h : zH} {t0 : Nat} {x1 : Int32} (ht0 : zT t0 = (10, 0)) {r : Int32 × zH} (hg : g_X11_should h t0 x1 = some r) : zM l G yX11_should cX11_should 3 (some .int) 4 89 [.ref (G.2.2.2 t0), .int x1] h (some (.int r.1)) r.2 :=
  zM_of hG pn_X11 (Nat.le_of_ble_eq_true rfl) (fun K _ hK hE => b_X11_should hK ht0 hE hg)
theorem dX11_isDigit_0 : decode cX11_isDigit 0 = .ok (.iload_n 0, 1) := by decide +kernel
theorem dX11_isDigit_1 : decode cX11_isDigit 1 = .ok (.ifCond .lt 13, 3) := by decide +kernel
theorem dX11_isDigit_4 : decode cX11_isDigit 4 = .ok (.iload_n 0, 1) := by decide +kernel
theorem dX11_isDigit_5 : decode cX11_isDigit 5 = .ok (.bipush 9, 2) := by decide +kernel
theorem dX11_isDigit_7 : decode cX11_isDigit 7 = .ok (.if_icmp .gt 7, 3) := by decide +kernel
theorem dX11_isDigit_10 : decode cX11_isDigit 10 = .ok (.iconst 1, 1) := by decide +kernel
theorem dX11_isDigit_11 : decode cX11_isDigit 11 = .ok (.goto 4, 3) := by decide +kernel
theorem dX11_isDigit_14 : decode cX11_isDigit 14 = .ok (.iconst 0, 1) := by decide +kernel
theorem dX11_isDigit_15 : decode cX11_isDigit 15 = .ok (.ireturn, 1) := by decide +kernel
def g_X11_isDigit (h : zH) (x0 : Int32) : Option Bool := if x0 < 0 then (some false) else (if 9 < x0 then (some false) else (some true))
set_option maxRecDepth 100000 in
set_option maxHeartbeats 4000000 in
theorem b_X11_isDigit {K : zK} {G : zG} (hK : zC K G cX11_isDigit RX11 1 0 0 (some .boolean)) {h : zH} {x0 : Int32}  {r : Bool} (hE : zE K G (some (.int (zb r))) h) (hg : g_X11_isDigit h x0 = some r) : zW K G 1 0 [(0, .int x0)] [] h := by
  rw [g_X11_isDigit] at hg
  refine z_iload_n (pc := 0) hK 0 dX11_isDigit_0 rfl (z_if_lt (pc := 1) hK 14 dX11_isDigit_1 (by decide) (fun c_1 => ?_) (fun c_1 => ?_))
  · rw [if_pos c_1] at hg
    exact z_iconst (pc := 14) hK dX11_isDigit_14 zc_i0 (z_zretP (pc := 15) hK rfl hE hg dX11_isDigit_15)
  · rw [if_neg c_1] at hg
    refine z_iload_n (pc := 4) hK 0 dX11_isDigit_4 rfl (z_bipush (pc := 5) hK dX11_isDigit_5 zc_b9 (z_icmp_gt (pc := 7) hK 14 dX11_isDigit_7 (by decide) (fun c_2 => ?_) (fun c_2 => ?_)))
    · rw [if_pos c_2] at hg
      exact z_iconst (pc := 14) hK dX11_isDigit_14 zc_i0 (z_zretP (pc := 15) hK rfl hE hg dX11_isDigit_15)
    · rw [if_neg c_2] at hg
      exact z_iconst (pc := 10) hK dX11_isDigit_10 zc_i1 (z_goto (pc := 11) hK 15 dX11_isDigit_11 (by decide) (z_zretP (pc := 15) hK rfl hE hg dX11_isDigit_15))
theorem m_X11_isDigit {l : Launch} {G : zG} (hG : zD G) {h : zH} {x0 : Int32}  {r : Bool} (hg : g_X11_isDigit h x0 = some r) : zM l G yX11_isDigit cX11_isDigit 1 (some .boolean) 0 0 [.int x0] h (some (.int (zb r))) h :=
  zM_of hG pn_X11 (Nat.le_of_ble_eq_true rfl) (fun K _ hK hE => b_X11_isDigit hK  hE hg)
theorem dX11_barsUpTo_0 : decode cX11_barsUpTo 0 = .ok (.sipush 1022, 3) := by decide +kernel
theorem dX11_barsUpTo_3 : decode cX11_barsUpTo 3 = .ok (.iconst 2, 1) := by decide +kernel
theorem dX11_barsUpTo_4 : decode cX11_barsUpTo 4 = .ok (.iload_n 0, 1) := by decide +kernel
theorem dX11_barsUpTo_5 : decode cX11_barsUpTo 5 = .ok (.ishl, 1) := by decide +kernel
theorem dX11_barsUpTo_6 : decode cX11_barsUpTo 6 = .ok (.iconst 1, 1) := by decide +kernel
theorem dX11_barsUpTo_7 : decode cX11_barsUpTo 7 = .ok (.isub, 1) := by decide +kernel
theorem dX11_barsUpTo_8 : decode cX11_barsUpTo 8 = .ok (.iand, 1) := by decide +kernel
theorem dX11_barsUpTo_9 : decode cX11_barsUpTo 9 = .ok (.ireturn, 1) := by decide +kernel
def g_X11_barsUpTo (h : zH) (x0 : Int32) : Option Int32 := some ((1022 : Int32) &&& (((2 : Int32) <<< (x0 &&& 31)) - 1))
set_option maxRecDepth 100000 in
set_option maxHeartbeats 4000000 in
theorem b_X11_barsUpTo {K : zK} {G : zG} (hK : zC K G cX11_barsUpTo RX11 1 0 0 (some .int)) {h : zH} {x0 : Int32}  {r : Int32} (hE : zE K G (some (.int r)) h) (hg : g_X11_barsUpTo h x0 = some r) : zW K G 1 0 [(0, .int x0)] [] h := by
  rw [g_X11_barsUpTo] at hg
  exact z_sipush (pc := 0) hK dX11_barsUpTo_0 zc_s1022 (z_iconst (pc := 3) hK dX11_barsUpTo_3 zc_i2 (z_iload_n (pc := 4) hK 0 dX11_barsUpTo_4 rfl (z_ishl (pc := 5) hK dX11_barsUpTo_5 (z_iconst (pc := 6) hK dX11_barsUpTo_6 zc_i1 (z_isub (pc := 7) hK dX11_barsUpTo_7 (z_iand (pc := 8) hK dX11_barsUpTo_8 (z_iretP (pc := 9) hK hE hg dX11_barsUpTo_9)))))))
theorem m_X11_barsUpTo {l : Launch} {G : zG} (hG : zD G) {h : zH} {x0 : Int32}  {r : Int32} (hg : g_X11_barsUpTo h x0 = some r) : zM l G yX11_barsUpTo cX11_barsUpTo 1 (some .int) 0 0 [.int x0] h (some (.int r)) h :=
  zM_of hG pn_X11 (Nat.le_of_ble_eq_true rfl) (fun K _ hK hE => b_X11_barsUpTo hK  hE hg)
theorem dX11_hear_0 : decode cX11_hear 0 = .ok (.iload_n 1, 1) := by decide +kernel
theorem dX11_hear_1 : decode cX11_hear 1 = .ok (.invokestatic 222, 3) := by decide +kernel
theorem dX11_hear_4 : decode cX11_hear 4 = .ok (.ifCond .eq 15, 3) := by decide +kernel
theorem dX11_hear_7 : decode cX11_hear 7 = .ok (.aload_n 0, 1) := by decide +kernel
theorem dX11_hear_8 : decode cX11_hear 8 = .ok (.getfield 54, 3) := by decide +kernel
theorem dX11_hear_11 : decode cX11_hear 11 = .ok (.getfield 225, 3) := by decide +kernel
theorem dX11_hear_14 : decode cX11_hear 14 = .ok (.bipush 8, 2) := by decide +kernel
theorem dX11_hear_16 : decode cX11_hear 16 = .ok (.if_icmp .lt 5, 3) := by decide +kernel
theorem dX11_hear_19 : decode cX11_hear 19 = .ok (.iconst 0, 1) := by decide +kernel
theorem dX11_hear_20 : decode cX11_hear 20 = .ok (.ireturn, 1) := by decide +kernel
theorem dX11_hear_21 : decode cX11_hear 21 = .ok (.iload_n 1, 1) := by decide +kernel
theorem dX11_hear_22 : decode cX11_hear 22 = .ok (.invokestatic 228, 3) := by decide +kernel
theorem dX11_hear_25 : decode cX11_hear 25 = .ok (.istore_n 3, 1) := by decide +kernel
theorem dX11_hear_26 : decode cX11_hear 26 = .ok (.aload_n 0, 1) := by decide +kernel
theorem dX11_hear_27 : decode cX11_hear 27 = .ok (.getfield 54, 3) := by decide +kernel
theorem dX11_hear_30 : decode cX11_hear 30 = .ok (.dup, 1) := by decide +kernel
theorem dX11_hear_31 : decode cX11_hear 31 = .ok (.getfield 231, 3) := by decide +kernel
theorem dX11_hear_34 : decode cX11_hear 34 = .ok (.iload_n 2, 1) := by decide +kernel
theorem dX11_hear_35 : decode cX11_hear 35 = .ok (.ifCond .eq 7, 3) := by decide +kernel
theorem dX11_hear_38 : decode cX11_hear 38 = .ok (.iload_n 3, 1) := by decide +kernel
theorem dX11_hear_39 : decode cX11_hear 39 = .ok (.goto 6, 3) := by decide +kernel
theorem dX11_hear_42 : decode cX11_hear 42 = .ok (.iload_n 3, 1) := by decide +kernel
theorem dX11_hear_43 : decode cX11_hear 43 = .ok (.iconst (-1), 1) := by decide +kernel
theorem dX11_hear_44 : decode cX11_hear 44 = .ok (.ixor, 1) := by decide +kernel
theorem dX11_hear_45 : decode cX11_hear 45 = .ok (.iand, 1) := by decide +kernel
theorem dX11_hear_46 : decode cX11_hear 46 = .ok (.putfield 231, 3) := by decide +kernel
theorem dX11_hear_49 : decode cX11_hear 49 = .ok (.aload_n 0, 1) := by decide +kernel
theorem dX11_hear_50 : decode cX11_hear 50 = .ok (.getfield 54, 3) := by decide +kernel
theorem dX11_hear_53 : decode cX11_hear 53 = .ok (.dup, 1) := by decide +kernel
theorem dX11_hear_54 : decode cX11_hear 54 = .ok (.getfield 225, 3) := by decide +kernel
theorem dX11_hear_57 : decode cX11_hear 57 = .ok (.iconst 1, 1) := by decide +kernel
theorem dX11_hear_58 : decode cX11_hear 58 = .ok (.iadd, 1) := by decide +kernel
theorem dX11_hear_59 : decode cX11_hear 59 = .ok (.putfield 225, 3) := by decide +kernel
theorem dX11_hear_62 : decode cX11_hear 62 = .ok (.iconst 1, 1) := by decide +kernel
theorem dX11_hear_63 : decode cX11_hear 63 = .ok (.ireturn, 1) := by decide +kernel
def g_X11_hear_45 (t0 : Nat)  (s0 : Int32) (s1 : Int32) (h : zH) : Option (Bool × zH) := zlet (zpi h (zR t0 6) 3 (s1 &&& s0)) fun h_6 => zlet (zpi h_6 (zR t0 6) 2 ((h_6.1 (zR t0 6) 2) + 1)) fun h_7 => some (true, h_7)
def g_X11_hear (h : zH) (t0 : Nat) (x1 : Int32) (x2 : Int32) : Option (Bool × zH) := (g_X11_isDigit h x1).bind fun v_1 => if (zb v_1) = 0 then (some (false, h)) else (if (h.1 (zR t0 6) 2) < 8 then ((g_X11_barsUpTo h x1).bind fun v_4 => if x2 = 0 then (g_X11_hear_45 t0 (v_4 ^^^ (-1)) (h.1 (zR t0 6) 3) h) else (g_X11_hear_45 t0 v_4 (h.1 (zR t0 6) 3) h)) else (some (false, h)))
set_option maxRecDepth 100000 in
set_option maxHeartbeats 4000000 in
theorem b_X11_hear_45 {K : zK} {G : zG} (hK : zC K G cX11_hear RX11 4 1 20 (some .boolean)) {t0 : Nat} (ht0 : zT t0 = (10, 0)) {r : Bool × zH} (hE : zE K G (some (.int (zb r.1))) r.2) (s0 : Int32) (s1 : Int32) (h : zH) (hg : g_X11_hear_45 t0 s0 s1 h = some r) : zW K G 4 45 [(0, .ref (G.2.2.2 t0))] [.int s0, .int s1, .ref (G.2.2.2 (zR t0 6))] h := by
  rw [g_X11_hear_45] at hg
  obtain ⟨h_6, eh_6, hg⟩ := zlet_some hg
  obtain ⟨h_7, eh_7, hg⟩ := zlet_some hg
  exact z_iand (pc := 45) hK dX11_hear_45 (z_putI (pc := 46) hK f_X11_231_2 fp_2_3 (zt_10_6 ht0) dX11_hear_46 (z_nameH eh_6 (z_aload_n (pc := 49) hK 0 dX11_hear_49 rfl (z_getR (pc := 50) hK f_X11_54_10 ht0 dX11_hear_50 (z_dup (pc := 53) hK dX11_hear_53 rfl (z_getI (pc := 54) hK f_X11_225_2 (zt_10_6 ht0) dX11_hear_54 (z_iconst (pc := 57) hK dX11_hear_57 zc_i1 (z_iadd (pc := 58) hK dX11_hear_58 (z_putI (pc := 59) hK f_X11_225_2 fp_2_2 (zt_10_6 ht0) dX11_hear_59 (z_nameH eh_7 (z_iconst (pc := 62) hK dX11_hear_62 zc_i1 (z_zretE (pc := 63) hK rfl hE hg dX11_hear_63))))))))))))
set_option maxRecDepth 100000 in
set_option maxHeartbeats 4000000 in
theorem b_X11_hear {K : zK} {G : zG} (hK : zC K G cX11_hear RX11 4 1 20 (some .boolean)) {h : zH} {t0 : Nat} {x1 : Int32} {x2 : Int32} (ht0 : zT t0 = (10, 0)) {r : Bool × zH} (hE : zE K G (some (.int (zb r.1))) r.2) (hg : g_X11_hear h t0 x1 x2 = some r) : zW K G 4 0 [(0, .ref (G.2.2.2 t0)), (1, .int x1), (2, .int x2)] [] h := by
  rw [g_X11_hear] at hg
  obtain ⟨v_1, qv_1, hg⟩ := zbind_some hg
  refine z_iload_n (pc := 0) hK 1 dX11_hear_0 rfl (z_callSi (pc := 1) hK [.int x1] (m_X11_isDigit (zC_D hK) qv_1) ss_X11_isDigit q_1118 rfl [] rfl (Nat.le_of_ble_eq_true rfl) ⟨by decide, by decide⟩ dX11_hear_1 (z_if_eq (pc := 4) hK 19 dX11_hear_4 (by decide) (fun c_2 => ?_) (fun c_2 => ?_)))
  · rw [if_pos c_2] at hg
    exact z_iconst (pc := 19) hK dX11_hear_19 zc_i0 (z_zretE (pc := 20) hK rfl hE hg dX11_hear_20)
  · rw [if_neg c_2] at hg
    refine z_aload_n (pc := 7) hK 0 dX11_hear_7 rfl (z_getR (pc := 8) hK f_X11_54_10 ht0 dX11_hear_8 (z_getI (pc := 11) hK f_X11_225_2 (zt_10_6 ht0) dX11_hear_11 (z_bipush (pc := 14) hK dX11_hear_14 zc_b8 (z_icmp_lt (pc := 16) hK 21 dX11_hear_16 (by decide) (fun c_3 => ?_) (fun c_3 => ?_)))))
    · rw [if_pos c_3] at hg
      obtain ⟨v_4, qv_4, hg⟩ := zbind_some hg
      refine z_iload_n (pc := 21) hK 1 dX11_hear_21 rfl (z_callSi (pc := 22) hK [.int x1] (m_X11_barsUpTo (zC_D hK) qv_4) ss_X11_barsUpTo q_1121 rfl [] rfl (Nat.le_of_ble_eq_true rfl) ⟨by decide, by decide⟩ dX11_hear_22 (z_istore_n (pc := 25) hK (lv' := [(3, .int v_4), (0, .ref (G.2.2.2 t0)), (1, .int x1), (2, .int x2)]) dX11_hear_25 (by decide) rfl (z_aload_n (pc := 26) hK 1 dX11_hear_26 rfl (z_getR (pc := 27) hK f_X11_54_10 ht0 dX11_hear_27 (z_dup (pc := 30) hK dX11_hear_30 rfl (z_getI (pc := 31) hK f_X11_231_2 (zt_10_6 ht0) dX11_hear_31 (z_iload_n (pc := 34) hK 3 dX11_hear_34 rfl (z_if_eq (pc := 35) hK 42 dX11_hear_35 (by decide) (fun c_5 => ?_) (fun c_5 => ?_)))))))))
      · rw [if_pos c_5] at hg
        exact z_iload_n (pc := 42) hK 0 dX11_hear_42 rfl (z_iconst (pc := 43) hK dX11_hear_43 zc_im1 (z_ixor (pc := 44) hK dX11_hear_44 (zsub (lv' := [(0, .ref (G.2.2.2 t0))]) [1] rfl (b_X11_hear_45 hK ht0 hE (v_4 ^^^ (-1)) (h.1 (zR t0 6) 3) h hg))))
      · rw [if_neg c_5] at hg
        exact z_iload_n (pc := 38) hK 0 dX11_hear_38 rfl (z_goto (pc := 39) hK 45 dX11_hear_39 (by decide) (zsub (lv' := [(0, .ref (G.2.2.2 t0))]) [1] rfl (b_X11_hear_45 hK ht0 hE v_4 (h.1 (zR t0 6) 3) h hg)))
    · rw [if_neg c_3] at hg
      exact z_iconst (pc := 19) hK dX11_hear_19 zc_i0 (z_zretE (pc := 20) hK rfl hE hg dX11_hear_20)
theorem m_X11_hear {l : Launch} {G : zG} (hG : zD G) {h : zH} {t0 : Nat} {x1 : Int32} {x2 : Int32} (ht0 : zT t0 = (10, 0)) {r : Bool × zH} (hg : g_X11_hear h t0 x1 x2 = some r) : zM l G yX11_hear cX11_hear 4 (some .boolean) 1 20 [.ref (G.2.2.2 t0), .int x1, .int x2] h (some (.int (zb r.1))) r.2 :=
  zM_of hG pn_X11 (Nat.le_of_ble_eq_true rfl) (fun K _ hK hE => b_X11_hear hK ht0 hE hg)
theorem dJ6_bitCount_0f7a4_0 : decode cJ6_bitCount_0f7a4 0 = .ok (.iload_n 0, 1) := by decide +kernel
theorem dJ6_bitCount_0f7a4_1 : decode cJ6_bitCount_0f7a4 1 = .ok (.iload_n 0, 1) := by decide +kernel
theorem dJ6_bitCount_0f7a4_2 : decode cJ6_bitCount_0f7a4 2 = .ok (.iconst 1, 1) := by decide +kernel
theorem dJ6_bitCount_0f7a4_3 : decode cJ6_bitCount_0f7a4 3 = .ok (.iushr, 1) := by decide +kernel
theorem dJ6_bitCount_0f7a4_4 : decode cJ6_bitCount_0f7a4 4 = .ok (.ldc_w 265, 3) := by decide +kernel
theorem dJ6_bitCount_0f7a4_7 : decode cJ6_bitCount_0f7a4 7 = .ok (.iand, 1) := by decide +kernel
theorem dJ6_bitCount_0f7a4_8 : decode cJ6_bitCount_0f7a4 8 = .ok (.isub, 1) := by decide +kernel
theorem dJ6_bitCount_0f7a4_9 : decode cJ6_bitCount_0f7a4 9 = .ok (.istore_n 0, 1) := by decide +kernel
theorem dJ6_bitCount_0f7a4_10 : decode cJ6_bitCount_0f7a4 10 = .ok (.iload_n 0, 1) := by decide +kernel
theorem dJ6_bitCount_0f7a4_11 : decode cJ6_bitCount_0f7a4 11 = .ok (.ldc_w 266, 3) := by decide +kernel
theorem dJ6_bitCount_0f7a4_14 : decode cJ6_bitCount_0f7a4 14 = .ok (.iand, 1) := by decide +kernel
theorem dJ6_bitCount_0f7a4_15 : decode cJ6_bitCount_0f7a4 15 = .ok (.iload_n 0, 1) := by decide +kernel
theorem dJ6_bitCount_0f7a4_16 : decode cJ6_bitCount_0f7a4 16 = .ok (.iconst 2, 1) := by decide +kernel
theorem dJ6_bitCount_0f7a4_17 : decode cJ6_bitCount_0f7a4 17 = .ok (.iushr, 1) := by decide +kernel
theorem dJ6_bitCount_0f7a4_18 : decode cJ6_bitCount_0f7a4 18 = .ok (.ldc_w 266, 3) := by decide +kernel
theorem dJ6_bitCount_0f7a4_21 : decode cJ6_bitCount_0f7a4 21 = .ok (.iand, 1) := by decide +kernel
theorem dJ6_bitCount_0f7a4_22 : decode cJ6_bitCount_0f7a4 22 = .ok (.iadd, 1) := by decide +kernel
theorem dJ6_bitCount_0f7a4_23 : decode cJ6_bitCount_0f7a4 23 = .ok (.istore_n 0, 1) := by decide +kernel
theorem dJ6_bitCount_0f7a4_24 : decode cJ6_bitCount_0f7a4 24 = .ok (.iload_n 0, 1) := by decide +kernel
theorem dJ6_bitCount_0f7a4_25 : decode cJ6_bitCount_0f7a4 25 = .ok (.iload_n 0, 1) := by decide +kernel
theorem dJ6_bitCount_0f7a4_26 : decode cJ6_bitCount_0f7a4 26 = .ok (.iconst 4, 1) := by decide +kernel
theorem dJ6_bitCount_0f7a4_27 : decode cJ6_bitCount_0f7a4 27 = .ok (.iushr, 1) := by decide +kernel
theorem dJ6_bitCount_0f7a4_28 : decode cJ6_bitCount_0f7a4 28 = .ok (.iadd, 1) := by decide +kernel
theorem dJ6_bitCount_0f7a4_29 : decode cJ6_bitCount_0f7a4 29 = .ok (.ldc_w 267, 3) := by decide +kernel
theorem dJ6_bitCount_0f7a4_32 : decode cJ6_bitCount_0f7a4 32 = .ok (.iand, 1) := by decide +kernel
theorem dJ6_bitCount_0f7a4_33 : decode cJ6_bitCount_0f7a4 33 = .ok (.istore_n 0, 1) := by decide +kernel
theorem dJ6_bitCount_0f7a4_34 : decode cJ6_bitCount_0f7a4 34 = .ok (.iload_n 0, 1) := by decide +kernel
theorem dJ6_bitCount_0f7a4_35 : decode cJ6_bitCount_0f7a4 35 = .ok (.iload_n 0, 1) := by decide +kernel
theorem dJ6_bitCount_0f7a4_36 : decode cJ6_bitCount_0f7a4 36 = .ok (.bipush 8, 2) := by decide +kernel
theorem dJ6_bitCount_0f7a4_38 : decode cJ6_bitCount_0f7a4 38 = .ok (.iushr, 1) := by decide +kernel
theorem dJ6_bitCount_0f7a4_39 : decode cJ6_bitCount_0f7a4 39 = .ok (.iadd, 1) := by decide +kernel
theorem dJ6_bitCount_0f7a4_40 : decode cJ6_bitCount_0f7a4 40 = .ok (.istore_n 0, 1) := by decide +kernel
theorem dJ6_bitCount_0f7a4_41 : decode cJ6_bitCount_0f7a4 41 = .ok (.iload_n 0, 1) := by decide +kernel
theorem dJ6_bitCount_0f7a4_42 : decode cJ6_bitCount_0f7a4 42 = .ok (.iload_n 0, 1) := by decide +kernel
theorem dJ6_bitCount_0f7a4_43 : decode cJ6_bitCount_0f7a4 43 = .ok (.bipush 16, 2) := by decide +kernel
theorem dJ6_bitCount_0f7a4_45 : decode cJ6_bitCount_0f7a4 45 = .ok (.iushr, 1) := by decide +kernel
theorem dJ6_bitCount_0f7a4_46 : decode cJ6_bitCount_0f7a4 46 = .ok (.iadd, 1) := by decide +kernel
theorem dJ6_bitCount_0f7a4_47 : decode cJ6_bitCount_0f7a4 47 = .ok (.istore_n 0, 1) := by decide +kernel
theorem dJ6_bitCount_0f7a4_48 : decode cJ6_bitCount_0f7a4 48 = .ok (.iload_n 0, 1) := by decide +kernel
theorem dJ6_bitCount_0f7a4_49 : decode cJ6_bitCount_0f7a4 49 = .ok (.bipush 63, 2) := by decide +kernel
theorem dJ6_bitCount_0f7a4_51 : decode cJ6_bitCount_0f7a4 51 = .ok (.iand, 1) := by decide +kernel
theorem dJ6_bitCount_0f7a4_52 : decode cJ6_bitCount_0f7a4 52 = .ok (.ireturn, 1) := by decide +kernel
def g_J6_bitCount_0f7a4 (h : zH) (x0 : Int32) : Option Int32 := zlet (x0 - (((x0.toUInt32 >>> ((1 : Int32).toUInt32 &&& Int32.toUInt32 31)).toInt32) &&& 1431655765)) fun v_1 => zlet ((v_1 &&& 858993459) + (((v_1.toUInt32 >>> ((2 : Int32).toUInt32 &&& Int32.toUInt32 31)).toInt32) &&& 858993459)) fun v_2 => zlet ((v_2 + ((v_2.toUInt32 >>> ((4 : Int32).toUInt32 &&& Int32.toUInt32 31)).toInt32)) &&& 252645135) fun v_3 => zlet (v_3 + ((v_3.toUInt32 >>> ((8 : Int32).toUInt32 &&& Int32.toUInt32 31)).toInt32)) fun v_4 => zlet (v_4 + ((v_4.toUInt32 >>> ((16 : Int32).toUInt32 &&& Int32.toUInt32 31)).toInt32)) fun v_5 => some (v_5 &&& 63)
set_option maxRecDepth 100000 in
set_option maxHeartbeats 4000000 in
theorem b_J6_bitCount_0f7a4 {K : zK} {G : zG} (hK : zC K G cJ6_bitCount_0f7a4 RJ6 1 0 0 (some .int)) {h : zH} {x0 : Int32}  {r : Int32} (hE : zE K G (some (.int r)) h) (hg : g_J6_bitCount_0f7a4 h x0 = some r) : zW K G 1 0 [(0, .int x0)] [] h := by
  rw [g_J6_bitCount_0f7a4] at hg
  obtain ⟨v_1, ev_1, hg⟩ := zlet_some hg
  obtain ⟨v_2, ev_2, hg⟩ := zlet_some hg
  obtain ⟨v_3, ev_3, hg⟩ := zlet_some hg
  obtain ⟨v_4, ev_4, hg⟩ := zlet_some hg
  obtain ⟨v_5, ev_5, hg⟩ := zlet_some hg
  exact z_iload_n (pc := 0) hK 0 dJ6_bitCount_0f7a4_0 rfl (z_iload_n (pc := 1) hK 0 dJ6_bitCount_0f7a4_1 rfl (z_iconst (pc := 2) hK dJ6_bitCount_0f7a4_2 zc_i1 (z_iushr (pc := 3) hK dJ6_bitCount_0f7a4_3 rfl (z_ldcw (pc := 4) hK q_1131 dJ6_bitCount_0f7a4_4 (z_iand (pc := 7) hK dJ6_bitCount_0f7a4_7 (z_isub (pc := 8) hK dJ6_bitCount_0f7a4_8 (z_nameI ev_1 (z_istore_n (pc := 9) hK (lv' := [(0, .int v_1)]) dJ6_bitCount_0f7a4_9 (by decide) rfl (z_iload_n (pc := 10) hK 0 dJ6_bitCount_0f7a4_10 rfl (z_ldcw (pc := 11) hK q_1132 dJ6_bitCount_0f7a4_11 (z_iand (pc := 14) hK dJ6_bitCount_0f7a4_14 (z_iload_n (pc := 15) hK 0 dJ6_bitCount_0f7a4_15 rfl (z_iconst (pc := 16) hK dJ6_bitCount_0f7a4_16 zc_i2 (z_iushr (pc := 17) hK dJ6_bitCount_0f7a4_17 rfl (z_ldcw (pc := 18) hK q_1132 dJ6_bitCount_0f7a4_18 (z_iand (pc := 21) hK dJ6_bitCount_0f7a4_21 (z_iadd (pc := 22) hK dJ6_bitCount_0f7a4_22 (z_nameI ev_2 (z_istore_n (pc := 23) hK (lv' := [(0, .int v_2)]) dJ6_bitCount_0f7a4_23 (by decide) rfl (z_iload_n (pc := 24) hK 0 dJ6_bitCount_0f7a4_24 rfl (z_iload_n (pc := 25) hK 0 dJ6_bitCount_0f7a4_25 rfl (z_iconst (pc := 26) hK dJ6_bitCount_0f7a4_26 zc_i4 (z_iushr (pc := 27) hK dJ6_bitCount_0f7a4_27 rfl (z_iadd (pc := 28) hK dJ6_bitCount_0f7a4_28 (z_ldcw (pc := 29) hK q_1133 dJ6_bitCount_0f7a4_29 (z_iand (pc := 32) hK dJ6_bitCount_0f7a4_32 (z_nameI ev_3 (z_istore_n (pc := 33) hK (lv' := [(0, .int v_3)]) dJ6_bitCount_0f7a4_33 (by decide) rfl (z_iload_n (pc := 34) hK 0 dJ6_bitCount_0f7a4_34 rfl (z_iload_n (pc := 35) hK 0 dJ6_bitCount_0f7a4_35 rfl (z_bipush (pc := 36) hK dJ6_bitCount_0f7a4_36 zc_b8 (z_iushr (pc := 38) hK dJ6_bitCount_0f7a4_38 rfl (z_iadd (pc := 39) hK dJ6_bitCount_0f7a4_39 (z_nameI ev_4 (z_istore_n (pc := 40) hK (lv' := [(0, .int v_4)]) dJ6_bitCount_0f7a4_40 (by decide) rfl (z_iload_n (pc := 41) hK 0 dJ6_bitCount_0f7a4_41 rfl (z_iload_n (pc := 42) hK 0 dJ6_bitCount_0f7a4_42 rfl (z_bipush (pc := 43) hK dJ6_bitCount_0f7a4_43 zc_b16 (z_iushr (pc := 45) hK dJ6_bitCount_0f7a4_45 rfl (z_iadd (pc := 46) hK dJ6_bitCount_0f7a4_46 (z_nameI ev_5 (z_istore_n (pc := 47) hK (lv' := [(0, .int v_5)]) dJ6_bitCount_0f7a4_47 (by decide) rfl (z_iload_n (pc := 48) hK 0 dJ6_bitCount_0f7a4_48 rfl (z_bipush (pc := 49) hK dJ6_bitCount_0f7a4_49 zc_b63 (z_iand (pc := 51) hK dJ6_bitCount_0f7a4_51 (z_iretP (pc := 52) hK hE hg dJ6_bitCount_0f7a4_52))))))))))))))))))))))))))))))))))))))))))))))
theorem m_J6_bitCount_0f7a4 {l : Launch} {G : zG} (hG : zD G) {h : zH} {x0 : Int32}  {r : Int32} (hg : g_J6_bitCount_0f7a4 h x0 = some r) : zM l G yJ6_bitCount_0f7a4 cJ6_bitCount_0f7a4 1 (some .int) 0 0 [.int x0] h (some (.int r)) h :=
  zM_of hG pn_J6 (Nat.le_of_ble_eq_true rfl) (fun K _ hK hE => b_J6_bitCount_0f7a4 hK  hE hg)
theorem dJ6_numberOfTrailingZeros_0f7a4_0 : decode cJ6_numberOfTrailingZeros_0f7a4 0 = .ok (.iload_n 0, 1) := by decide +kernel
theorem dJ6_numberOfTrailingZeros_0f7a4_1 : decode cJ6_numberOfTrailingZeros_0f7a4 1 = .ok (.iconst (-1), 1) := by decide +kernel
theorem dJ6_numberOfTrailingZeros_0f7a4_2 : decode cJ6_numberOfTrailingZeros_0f7a4 2 = .ok (.ixor, 1) := by decide +kernel
theorem dJ6_numberOfTrailingZeros_0f7a4_3 : decode cJ6_numberOfTrailingZeros_0f7a4 3 = .ok (.iload_n 0, 1) := by decide +kernel
theorem dJ6_numberOfTrailingZeros_0f7a4_4 : decode cJ6_numberOfTrailingZeros_0f7a4 4 = .ok (.iconst 1, 1) := by decide +kernel
theorem dJ6_numberOfTrailingZeros_0f7a4_5 : decode cJ6_numberOfTrailingZeros_0f7a4 5 = .ok (.isub, 1) := by decide +kernel
theorem dJ6_numberOfTrailingZeros_0f7a4_6 : decode cJ6_numberOfTrailingZeros_0f7a4 6 = .ok (.iand, 1) := by decide +kernel
theorem dJ6_numberOfTrailingZeros_0f7a4_7 : decode cJ6_numberOfTrailingZeros_0f7a4 7 = .ok (.istore_n 0, 1) := by decide +kernel
theorem dJ6_numberOfTrailingZeros_0f7a4_8 : decode cJ6_numberOfTrailingZeros_0f7a4 8 = .ok (.iload_n 0, 1) := by decide +kernel
theorem dJ6_numberOfTrailingZeros_0f7a4_9 : decode cJ6_numberOfTrailingZeros_0f7a4 9 = .ok (.ifCond .gt 8, 3) := by decide +kernel
theorem dJ6_numberOfTrailingZeros_0f7a4_12 : decode cJ6_numberOfTrailingZeros_0f7a4 12 = .ok (.iload_n 0, 1) := by decide +kernel
theorem dJ6_numberOfTrailingZeros_0f7a4_13 : decode cJ6_numberOfTrailingZeros_0f7a4 13 = .ok (.bipush 32, 2) := by decide +kernel
theorem dJ6_numberOfTrailingZeros_0f7a4_15 : decode cJ6_numberOfTrailingZeros_0f7a4 15 = .ok (.iand, 1) := by decide +kernel
theorem dJ6_numberOfTrailingZeros_0f7a4_16 : decode cJ6_numberOfTrailingZeros_0f7a4 16 = .ok (.ireturn, 1) := by decide +kernel
theorem dJ6_numberOfTrailingZeros_0f7a4_17 : decode cJ6_numberOfTrailingZeros_0f7a4 17 = .ok (.iconst 1, 1) := by decide +kernel
theorem dJ6_numberOfTrailingZeros_0f7a4_18 : decode cJ6_numberOfTrailingZeros_0f7a4 18 = .ok (.istore_n 1, 1) := by decide +kernel
theorem dJ6_numberOfTrailingZeros_0f7a4_19 : decode cJ6_numberOfTrailingZeros_0f7a4 19 = .ok (.iload_n 0, 1) := by decide +kernel
theorem dJ6_numberOfTrailingZeros_0f7a4_20 : decode cJ6_numberOfTrailingZeros_0f7a4 20 = .ok (.ldc_w 264, 3) := by decide +kernel
theorem dJ6_numberOfTrailingZeros_0f7a4_23 : decode cJ6_numberOfTrailingZeros_0f7a4 23 = .ok (.if_icmp .le 11, 3) := by decide +kernel
theorem dJ6_numberOfTrailingZeros_0f7a4_26 : decode cJ6_numberOfTrailingZeros_0f7a4 26 = .ok (.iinc 1 16, 3) := by decide +kernel
theorem dJ6_numberOfTrailingZeros_0f7a4_29 : decode cJ6_numberOfTrailingZeros_0f7a4 29 = .ok (.iload_n 0, 1) := by decide +kernel
theorem dJ6_numberOfTrailingZeros_0f7a4_30 : decode cJ6_numberOfTrailingZeros_0f7a4 30 = .ok (.bipush 16, 2) := by decide +kernel
theorem dJ6_numberOfTrailingZeros_0f7a4_32 : decode cJ6_numberOfTrailingZeros_0f7a4 32 = .ok (.iushr, 1) := by decide +kernel
theorem dJ6_numberOfTrailingZeros_0f7a4_33 : decode cJ6_numberOfTrailingZeros_0f7a4 33 = .ok (.istore_n 0, 1) := by decide +kernel
theorem dJ6_numberOfTrailingZeros_0f7a4_34 : decode cJ6_numberOfTrailingZeros_0f7a4 34 = .ok (.iload_n 0, 1) := by decide +kernel
theorem dJ6_numberOfTrailingZeros_0f7a4_35 : decode cJ6_numberOfTrailingZeros_0f7a4 35 = .ok (.sipush 256, 3) := by decide +kernel
theorem dJ6_numberOfTrailingZeros_0f7a4_38 : decode cJ6_numberOfTrailingZeros_0f7a4 38 = .ok (.if_icmp .le 11, 3) := by decide +kernel
theorem dJ6_numberOfTrailingZeros_0f7a4_41 : decode cJ6_numberOfTrailingZeros_0f7a4 41 = .ok (.iinc 1 8, 3) := by decide +kernel
theorem dJ6_numberOfTrailingZeros_0f7a4_44 : decode cJ6_numberOfTrailingZeros_0f7a4 44 = .ok (.iload_n 0, 1) := by decide +kernel
theorem dJ6_numberOfTrailingZeros_0f7a4_45 : decode cJ6_numberOfTrailingZeros_0f7a4 45 = .ok (.bipush 8, 2) := by decide +kernel
theorem dJ6_numberOfTrailingZeros_0f7a4_47 : decode cJ6_numberOfTrailingZeros_0f7a4 47 = .ok (.iushr, 1) := by decide +kernel
theorem dJ6_numberOfTrailingZeros_0f7a4_48 : decode cJ6_numberOfTrailingZeros_0f7a4 48 = .ok (.istore_n 0, 1) := by decide +kernel
theorem dJ6_numberOfTrailingZeros_0f7a4_49 : decode cJ6_numberOfTrailingZeros_0f7a4 49 = .ok (.iload_n 0, 1) := by decide +kernel
theorem dJ6_numberOfTrailingZeros_0f7a4_50 : decode cJ6_numberOfTrailingZeros_0f7a4 50 = .ok (.bipush 16, 2) := by decide +kernel
theorem dJ6_numberOfTrailingZeros_0f7a4_52 : decode cJ6_numberOfTrailingZeros_0f7a4 52 = .ok (.if_icmp .le 10, 3) := by decide +kernel
theorem dJ6_numberOfTrailingZeros_0f7a4_55 : decode cJ6_numberOfTrailingZeros_0f7a4 55 = .ok (.iinc 1 4, 3) := by decide +kernel
theorem dJ6_numberOfTrailingZeros_0f7a4_58 : decode cJ6_numberOfTrailingZeros_0f7a4 58 = .ok (.iload_n 0, 1) := by decide +kernel
theorem dJ6_numberOfTrailingZeros_0f7a4_59 : decode cJ6_numberOfTrailingZeros_0f7a4 59 = .ok (.iconst 4, 1) := by decide +kernel
theorem dJ6_numberOfTrailingZeros_0f7a4_60 : decode cJ6_numberOfTrailingZeros_0f7a4 60 = .ok (.iushr, 1) := by decide +kernel
theorem dJ6_numberOfTrailingZeros_0f7a4_61 : decode cJ6_numberOfTrailingZeros_0f7a4 61 = .ok (.istore_n 0, 1) := by decide +kernel
theorem dJ6_numberOfTrailingZeros_0f7a4_62 : decode cJ6_numberOfTrailingZeros_0f7a4 62 = .ok (.iload_n 0, 1) := by decide +kernel
theorem dJ6_numberOfTrailingZeros_0f7a4_63 : decode cJ6_numberOfTrailingZeros_0f7a4 63 = .ok (.iconst 4, 1) := by decide +kernel
theorem dJ6_numberOfTrailingZeros_0f7a4_64 : decode cJ6_numberOfTrailingZeros_0f7a4 64 = .ok (.if_icmp .le 10, 3) := by decide +kernel
theorem dJ6_numberOfTrailingZeros_0f7a4_67 : decode cJ6_numberOfTrailingZeros_0f7a4 67 = .ok (.iinc 1 2, 3) := by decide +kernel
theorem dJ6_numberOfTrailingZeros_0f7a4_70 : decode cJ6_numberOfTrailingZeros_0f7a4 70 = .ok (.iload_n 0, 1) := by decide +kernel
theorem dJ6_numberOfTrailingZeros_0f7a4_71 : decode cJ6_numberOfTrailingZeros_0f7a4 71 = .ok (.iconst 2, 1) := by decide +kernel
theorem dJ6_numberOfTrailingZeros_0f7a4_72 : decode cJ6_numberOfTrailingZeros_0f7a4 72 = .ok (.iushr, 1) := by decide +kernel
theorem dJ6_numberOfTrailingZeros_0f7a4_73 : decode cJ6_numberOfTrailingZeros_0f7a4 73 = .ok (.istore_n 0, 1) := by decide +kernel
theorem dJ6_numberOfTrailingZeros_0f7a4_74 : decode cJ6_numberOfTrailingZeros_0f7a4 74 = .ok (.iload_n 1, 1) := by decide +kernel
theorem dJ6_numberOfTrailingZeros_0f7a4_75 : decode cJ6_numberOfTrailingZeros_0f7a4 75 = .ok (.iload_n 0, 1) := by decide +kernel
theorem dJ6_numberOfTrailingZeros_0f7a4_76 : decode cJ6_numberOfTrailingZeros_0f7a4 76 = .ok (.iconst 1, 1) := by decide +kernel
theorem dJ6_numberOfTrailingZeros_0f7a4_77 : decode cJ6_numberOfTrailingZeros_0f7a4 77 = .ok (.iushr, 1) := by decide +kernel
theorem dJ6_numberOfTrailingZeros_0f7a4_78 : decode cJ6_numberOfTrailingZeros_0f7a4 78 = .ok (.iadd, 1) := by decide +kernel
theorem dJ6_numberOfTrailingZeros_0f7a4_79 : decode cJ6_numberOfTrailingZeros_0f7a4 79 = .ok (.ireturn, 1) := by decide +kernel
def g_J6_numberOfTrailingZeros_0f7a4_62 (h : zH)   (x0 : Int32) (x1 : Int32) : Option Int32 := if x0 ≤ 4 then (some (x1 + ((x0.toUInt32 >>> ((1 : Int32).toUInt32 &&& Int32.toUInt32 31)).toInt32))) else (zlet ((x0.toUInt32 >>> ((2 : Int32).toUInt32 &&& Int32.toUInt32 31)).toInt32) fun v_10 => some ((x1 + 2) + ((v_10.toUInt32 >>> ((1 : Int32).toUInt32 &&& Int32.toUInt32 31)).toInt32)))
def g_J6_numberOfTrailingZeros_0f7a4_49 (h : zH)   (x0 : Int32) (x1 : Int32) : Option Int32 := if x0 ≤ 16 then (g_J6_numberOfTrailingZeros_0f7a4_62 h x0 x1) else (zlet ((x0.toUInt32 >>> ((4 : Int32).toUInt32 &&& Int32.toUInt32 31)).toInt32) fun v_8 => g_J6_numberOfTrailingZeros_0f7a4_62 h v_8 (x1 + 4))
def g_J6_numberOfTrailingZeros_0f7a4_34 (h : zH)   (x0 : Int32) (x1 : Int32) : Option Int32 := if x0 ≤ 256 then (g_J6_numberOfTrailingZeros_0f7a4_49 h x0 x1) else (zlet ((x0.toUInt32 >>> ((8 : Int32).toUInt32 &&& Int32.toUInt32 31)).toInt32) fun v_6 => g_J6_numberOfTrailingZeros_0f7a4_49 h v_6 (x1 + 8))
def g_J6_numberOfTrailingZeros_0f7a4 (h : zH) (x0 : Int32) : Option Int32 := zlet ((x0 ^^^ (-1)) &&& (x0 - 1)) fun v_1 => if 0 < v_1 then (if v_1 ≤ 65536 then (g_J6_numberOfTrailingZeros_0f7a4_34 h v_1 1) else (zlet ((v_1.toUInt32 >>> ((16 : Int32).toUInt32 &&& Int32.toUInt32 31)).toInt32) fun v_4 => g_J6_numberOfTrailingZeros_0f7a4_34 h v_4 (1 + 16))) else (some (v_1 &&& 32))
set_option maxRecDepth 100000 in
set_option maxHeartbeats 4000000 in
theorem b_J6_numberOfTrailingZeros_0f7a4_62 {K : zK} {G : zG} (hK : zC K G cJ6_numberOfTrailingZeros_0f7a4 RJ6 2 0 0 (some .int)) {h : zH} {r : Int32} (hE : zE K G (some (.int r)) h) (x0 : Int32) (x1 : Int32) (hg : g_J6_numberOfTrailingZeros_0f7a4_62 h x0 x1 = some r) : zW K G 2 62 [(0, .int x0), (1, .int x1)] [] h := by
  rw [g_J6_numberOfTrailingZeros_0f7a4_62] at hg
  refine z_iload_n (pc := 62) hK 0 dJ6_numberOfTrailingZeros_0f7a4_62 rfl (z_iconst (pc := 63) hK dJ6_numberOfTrailingZeros_0f7a4_63 zc_i4 (z_icmp_le (pc := 64) hK 74 dJ6_numberOfTrailingZeros_0f7a4_64 (by decide) (fun c_9 => ?_) (fun c_9 => ?_)))
  · rw [if_pos c_9] at hg
    exact z_iload_n (pc := 74) hK 1 dJ6_numberOfTrailingZeros_0f7a4_74 rfl (z_iload_n (pc := 75) hK 0 dJ6_numberOfTrailingZeros_0f7a4_75 rfl (z_iconst (pc := 76) hK dJ6_numberOfTrailingZeros_0f7a4_76 zc_i1 (z_iushr (pc := 77) hK dJ6_numberOfTrailingZeros_0f7a4_77 rfl (z_iadd (pc := 78) hK dJ6_numberOfTrailingZeros_0f7a4_78 (z_iretP (pc := 79) hK hE hg dJ6_numberOfTrailingZeros_0f7a4_79)))))
  · rw [if_neg c_9] at hg
    obtain ⟨v_10, ev_10, hg⟩ := zlet_some hg
    exact z_iinc (pc := 67) hK 1 (lv' := [(1, .int (x1 + 2)), (0, .int x0)]) dJ6_numberOfTrailingZeros_0f7a4_67 rfl (zc_n2 _) (by decide) rfl (z_iload_n (pc := 70) hK 1 dJ6_numberOfTrailingZeros_0f7a4_70 rfl (z_iconst (pc := 71) hK dJ6_numberOfTrailingZeros_0f7a4_71 zc_i2 (z_iushr (pc := 72) hK dJ6_numberOfTrailingZeros_0f7a4_72 rfl (z_nameI ev_10 (z_istore_n (pc := 73) hK (lv' := [(0, .int v_10), (1, .int (x1 + 2))]) dJ6_numberOfTrailingZeros_0f7a4_73 (by decide) rfl (z_iload_n (pc := 74) hK 1 dJ6_numberOfTrailingZeros_0f7a4_74 rfl (z_iload_n (pc := 75) hK 0 dJ6_numberOfTrailingZeros_0f7a4_75 rfl (z_iconst (pc := 76) hK dJ6_numberOfTrailingZeros_0f7a4_76 zc_i1 (z_iushr (pc := 77) hK dJ6_numberOfTrailingZeros_0f7a4_77 rfl (z_iadd (pc := 78) hK dJ6_numberOfTrailingZeros_0f7a4_78 (z_iretP (pc := 79) hK hE hg dJ6_numberOfTrailingZeros_0f7a4_79)))))))))))
set_option maxRecDepth 100000 in
set_option maxHeartbeats 4000000 in
theorem b_J6_numberOfTrailingZeros_0f7a4_49 {K : zK} {G : zG} (hK : zC K G cJ6_numberOfTrailingZeros_0f7a4 RJ6 2 0 0 (some .int)) {h : zH} {r : Int32} (hE : zE K G (some (.int r)) h) (x0 : Int32) (x1 : Int32) (hg : g_J6_numberOfTrailingZeros_0f7a4_49 h x0 x1 = some r) : zW K G 2 49 [(0, .int x0), (1, .int x1)] [] h := by
  rw [g_J6_numberOfTrailingZeros_0f7a4_49] at hg
  refine z_iload_n (pc := 49) hK 0 dJ6_numberOfTrailingZeros_0f7a4_49 rfl (z_bipush (pc := 50) hK dJ6_numberOfTrailingZeros_0f7a4_50 zc_b16 (z_icmp_le (pc := 52) hK 62 dJ6_numberOfTrailingZeros_0f7a4_52 (by decide) (fun c_7 => ?_) (fun c_7 => ?_)))
  · rw [if_pos c_7] at hg
    exact zsub (lv' := [(0, .int x0), (1, .int x1)]) [0, 1] rfl (b_J6_numberOfTrailingZeros_0f7a4_62 hK hE x0 x1 hg)
  · rw [if_neg c_7] at hg
    obtain ⟨v_8, ev_8, hg⟩ := zlet_some hg
    exact z_iinc (pc := 55) hK 1 (lv' := [(1, .int (x1 + 4)), (0, .int x0)]) dJ6_numberOfTrailingZeros_0f7a4_55 rfl (zc_n4 _) (by decide) rfl (z_iload_n (pc := 58) hK 1 dJ6_numberOfTrailingZeros_0f7a4_58 rfl (z_iconst (pc := 59) hK dJ6_numberOfTrailingZeros_0f7a4_59 zc_i4 (z_iushr (pc := 60) hK dJ6_numberOfTrailingZeros_0f7a4_60 rfl (z_nameI ev_8 (z_istore_n (pc := 61) hK (lv' := [(0, .int v_8), (1, .int (x1 + 4))]) dJ6_numberOfTrailingZeros_0f7a4_61 (by decide) rfl (zsub (lv' := [(0, .int v_8), (1, .int (x1 + 4))]) [0, 1] rfl (b_J6_numberOfTrailingZeros_0f7a4_62 hK hE v_8 (x1 + 4) hg)))))))
set_option maxRecDepth 100000 in
set_option maxHeartbeats 4000000 in
theorem b_J6_numberOfTrailingZeros_0f7a4_34 {K : zK} {G : zG} (hK : zC K G cJ6_numberOfTrailingZeros_0f7a4 RJ6 2 0 0 (some .int)) {h : zH} {r : Int32} (hE : zE K G (some (.int r)) h) (x0 : Int32) (x1 : Int32) (hg : g_J6_numberOfTrailingZeros_0f7a4_34 h x0 x1 = some r) : zW K G 2 34 [(0, .int x0), (1, .int x1)] [] h := by
  rw [g_J6_numberOfTrailingZeros_0f7a4_34] at hg
  refine z_iload_n (pc := 34) hK 0 dJ6_numberOfTrailingZeros_0f7a4_34 rfl (z_sipush (pc := 35) hK dJ6_numberOfTrailingZeros_0f7a4_35 zc_s256 (z_icmp_le (pc := 38) hK 49 dJ6_numberOfTrailingZeros_0f7a4_38 (by decide) (fun c_5 => ?_) (fun c_5 => ?_)))
  · rw [if_pos c_5] at hg
    exact zsub (lv' := [(0, .int x0), (1, .int x1)]) [0, 1] rfl (b_J6_numberOfTrailingZeros_0f7a4_49 hK hE x0 x1 hg)
  · rw [if_neg c_5] at hg
    obtain ⟨v_6, ev_6, hg⟩ := zlet_some hg
    exact z_iinc (pc := 41) hK 1 (lv' := [(1, .int (x1 + 8)), (0, .int x0)]) dJ6_numberOfTrailingZeros_0f7a4_41 rfl (zc_n8 _) (by decide) rfl (z_iload_n (pc := 44) hK 1 dJ6_numberOfTrailingZeros_0f7a4_44 rfl (z_bipush (pc := 45) hK dJ6_numberOfTrailingZeros_0f7a4_45 zc_b8 (z_iushr (pc := 47) hK dJ6_numberOfTrailingZeros_0f7a4_47 rfl (z_nameI ev_6 (z_istore_n (pc := 48) hK (lv' := [(0, .int v_6), (1, .int (x1 + 8))]) dJ6_numberOfTrailingZeros_0f7a4_48 (by decide) rfl (zsub (lv' := [(0, .int v_6), (1, .int (x1 + 8))]) [0, 1] rfl (b_J6_numberOfTrailingZeros_0f7a4_49 hK hE v_6 (x1 + 8) hg)))))))
set_option maxRecDepth 100000 in
set_option maxHeartbeats 4000000 in
theorem b_J6_numberOfTrailingZeros_0f7a4 {K : zK} {G : zG} (hK : zC K G cJ6_numberOfTrailingZeros_0f7a4 RJ6 2 0 0 (some .int)) {h : zH} {x0 : Int32}  {r : Int32} (hE : zE K G (some (.int r)) h) (hg : g_J6_numberOfTrailingZeros_0f7a4 h x0 = some r) : zW K G 2 0 [(0, .int x0)] [] h := by
  rw [g_J6_numberOfTrailingZeros_0f7a4] at hg
  obtain ⟨v_1, ev_1, hg⟩ := zlet_some hg
  refine z_iload_n (pc := 0) hK 0 dJ6_numberOfTrailingZeros_0f7a4_0 rfl (z_iconst (pc := 1) hK dJ6_numberOfTrailingZeros_0f7a4_1 zc_im1 (z_ixor (pc := 2) hK dJ6_numberOfTrailingZeros_0f7a4_2 (z_iload_n (pc := 3) hK 0 dJ6_numberOfTrailingZeros_0f7a4_3 rfl (z_iconst (pc := 4) hK dJ6_numberOfTrailingZeros_0f7a4_4 zc_i1 (z_isub (pc := 5) hK dJ6_numberOfTrailingZeros_0f7a4_5 (z_iand (pc := 6) hK dJ6_numberOfTrailingZeros_0f7a4_6 (z_nameI ev_1 (z_istore_n (pc := 7) hK (lv' := [(0, .int v_1)]) dJ6_numberOfTrailingZeros_0f7a4_7 (by decide) rfl (z_iload_n (pc := 8) hK 0 dJ6_numberOfTrailingZeros_0f7a4_8 rfl (z_if_gt (pc := 9) hK 17 dJ6_numberOfTrailingZeros_0f7a4_9 (by decide) (fun c_2 => ?_) (fun c_2 => ?_)))))))))))
  · rw [if_pos c_2] at hg
    refine z_iconst (pc := 17) hK dJ6_numberOfTrailingZeros_0f7a4_17 zc_i1 (z_istore_n (pc := 18) hK (lv' := [(1, .int 1), (0, .int v_1)]) dJ6_numberOfTrailingZeros_0f7a4_18 (by decide) rfl (z_iload_n (pc := 19) hK 1 dJ6_numberOfTrailingZeros_0f7a4_19 rfl (z_ldcw (pc := 20) hK q_1137 dJ6_numberOfTrailingZeros_0f7a4_20 (z_icmp_le (pc := 23) hK 34 dJ6_numberOfTrailingZeros_0f7a4_23 (by decide) (fun c_3 => ?_) (fun c_3 => ?_)))))
    · rw [if_pos c_3] at hg
      exact zsub (lv' := [(0, .int v_1), (1, .int 1)]) [1, 0] rfl (b_J6_numberOfTrailingZeros_0f7a4_34 hK hE v_1 1 hg)
    · rw [if_neg c_3] at hg
      obtain ⟨v_4, ev_4, hg⟩ := zlet_some hg
      exact z_iinc (pc := 26) hK 0 (lv' := [(1, .int (1 + 16)), (0, .int v_1)]) dJ6_numberOfTrailingZeros_0f7a4_26 rfl (zc_n16 _) (by decide) rfl (z_iload_n (pc := 29) hK 1 dJ6_numberOfTrailingZeros_0f7a4_29 rfl (z_bipush (pc := 30) hK dJ6_numberOfTrailingZeros_0f7a4_30 zc_b16 (z_iushr (pc := 32) hK dJ6_numberOfTrailingZeros_0f7a4_32 rfl (z_nameI ev_4 (z_istore_n (pc := 33) hK (lv' := [(0, .int v_4), (1, .int (1 + 16))]) dJ6_numberOfTrailingZeros_0f7a4_33 (by decide) rfl (zsub (lv' := [(0, .int v_4), (1, .int (1 + 16))]) [0, 1] rfl (b_J6_numberOfTrailingZeros_0f7a4_34 hK hE v_4 (1 + 16) hg)))))))
  · rw [if_neg c_2] at hg
    exact z_iload_n (pc := 12) hK 0 dJ6_numberOfTrailingZeros_0f7a4_12 rfl (z_bipush (pc := 13) hK dJ6_numberOfTrailingZeros_0f7a4_13 zc_b32 (z_iand (pc := 15) hK dJ6_numberOfTrailingZeros_0f7a4_15 (z_iretP (pc := 16) hK hE hg dJ6_numberOfTrailingZeros_0f7a4_16)))
theorem m_J6_numberOfTrailingZeros_0f7a4 {l : Launch} {G : zG} (hG : zD G) {h : zH} {x0 : Int32}  {r : Int32} (hg : g_J6_numberOfTrailingZeros_0f7a4 h x0 = some r) : zM l G yJ6_numberOfTrailingZeros_0f7a4 cJ6_numberOfTrailingZeros_0f7a4 2 (some .int) 0 0 [.int x0] h (some (.int r)) h :=
  zM_of hG pn_J6 (Nat.le_of_ble_eq_true rfl) (fun K _ hK hE => b_J6_numberOfTrailingZeros_0f7a4 hK  hE hg)
theorem dJ6_numberOfLeadingZeros_0f7a4_0 : decode cJ6_numberOfLeadingZeros_0f7a4 0 = .ok (.iload_n 0, 1) := by decide +kernel
theorem dJ6_numberOfLeadingZeros_0f7a4_1 : decode cJ6_numberOfLeadingZeros_0f7a4 1 = .ok (.ifCond .gt 14, 3) := by decide +kernel
theorem dJ6_numberOfLeadingZeros_0f7a4_4 : decode cJ6_numberOfLeadingZeros_0f7a4 4 = .ok (.iload_n 0, 1) := by decide +kernel
theorem dJ6_numberOfLeadingZeros_0f7a4_5 : decode cJ6_numberOfLeadingZeros_0f7a4 5 = .ok (.ifCond .ne 8, 3) := by decide +kernel
theorem dJ6_numberOfLeadingZeros_0f7a4_8 : decode cJ6_numberOfLeadingZeros_0f7a4 8 = .ok (.bipush 32, 2) := by decide +kernel
theorem dJ6_numberOfLeadingZeros_0f7a4_10 : decode cJ6_numberOfLeadingZeros_0f7a4 10 = .ok (.goto 4, 3) := by decide +kernel
theorem dJ6_numberOfLeadingZeros_0f7a4_13 : decode cJ6_numberOfLeadingZeros_0f7a4 13 = .ok (.iconst 0, 1) := by decide +kernel
theorem dJ6_numberOfLeadingZeros_0f7a4_14 : decode cJ6_numberOfLeadingZeros_0f7a4 14 = .ok (.ireturn, 1) := by decide +kernel
theorem dJ6_numberOfLeadingZeros_0f7a4_15 : decode cJ6_numberOfLeadingZeros_0f7a4 15 = .ok (.bipush 31, 2) := by decide +kernel
theorem dJ6_numberOfLeadingZeros_0f7a4_17 : decode cJ6_numberOfLeadingZeros_0f7a4 17 = .ok (.istore_n 1, 1) := by decide +kernel
theorem dJ6_numberOfLeadingZeros_0f7a4_18 : decode cJ6_numberOfLeadingZeros_0f7a4 18 = .ok (.iload_n 0, 1) := by decide +kernel
theorem dJ6_numberOfLeadingZeros_0f7a4_19 : decode cJ6_numberOfLeadingZeros_0f7a4 19 = .ok (.ldc_w 264, 3) := by decide +kernel
theorem dJ6_numberOfLeadingZeros_0f7a4_22 : decode cJ6_numberOfLeadingZeros_0f7a4 22 = .ok (.if_icmp .lt 11, 3) := by decide +kernel
theorem dJ6_numberOfLeadingZeros_0f7a4_25 : decode cJ6_numberOfLeadingZeros_0f7a4 25 = .ok (.iinc 1 (-16), 3) := by decide +kernel
theorem dJ6_numberOfLeadingZeros_0f7a4_28 : decode cJ6_numberOfLeadingZeros_0f7a4 28 = .ok (.iload_n 0, 1) := by decide +kernel
theorem dJ6_numberOfLeadingZeros_0f7a4_29 : decode cJ6_numberOfLeadingZeros_0f7a4 29 = .ok (.bipush 16, 2) := by decide +kernel
theorem dJ6_numberOfLeadingZeros_0f7a4_31 : decode cJ6_numberOfLeadingZeros_0f7a4 31 = .ok (.iushr, 1) := by decide +kernel
theorem dJ6_numberOfLeadingZeros_0f7a4_32 : decode cJ6_numberOfLeadingZeros_0f7a4 32 = .ok (.istore_n 0, 1) := by decide +kernel
theorem dJ6_numberOfLeadingZeros_0f7a4_33 : decode cJ6_numberOfLeadingZeros_0f7a4 33 = .ok (.iload_n 0, 1) := by decide +kernel
theorem dJ6_numberOfLeadingZeros_0f7a4_34 : decode cJ6_numberOfLeadingZeros_0f7a4 34 = .ok (.sipush 256, 3) := by decide +kernel
theorem dJ6_numberOfLeadingZeros_0f7a4_37 : decode cJ6_numberOfLeadingZeros_0f7a4 37 = .ok (.if_icmp .lt 11, 3) := by decide +kernel
theorem dJ6_numberOfLeadingZeros_0f7a4_40 : decode cJ6_numberOfLeadingZeros_0f7a4 40 = .ok (.iinc 1 (-8), 3) := by decide +kernel
theorem dJ6_numberOfLeadingZeros_0f7a4_43 : decode cJ6_numberOfLeadingZeros_0f7a4 43 = .ok (.iload_n 0, 1) := by decide +kernel
theorem dJ6_numberOfLeadingZeros_0f7a4_44 : decode cJ6_numberOfLeadingZeros_0f7a4 44 = .ok (.bipush 8, 2) := by decide +kernel
theorem dJ6_numberOfLeadingZeros_0f7a4_46 : decode cJ6_numberOfLeadingZeros_0f7a4 46 = .ok (.iushr, 1) := by decide +kernel
theorem dJ6_numberOfLeadingZeros_0f7a4_47 : decode cJ6_numberOfLeadingZeros_0f7a4 47 = .ok (.istore_n 0, 1) := by decide +kernel
theorem dJ6_numberOfLeadingZeros_0f7a4_48 : decode cJ6_numberOfLeadingZeros_0f7a4 48 = .ok (.iload_n 0, 1) := by decide +kernel
theorem dJ6_numberOfLeadingZeros_0f7a4_49 : decode cJ6_numberOfLeadingZeros_0f7a4 49 = .ok (.bipush 16, 2) := by decide +kernel
theorem dJ6_numberOfLeadingZeros_0f7a4_51 : decode cJ6_numberOfLeadingZeros_0f7a4 51 = .ok (.if_icmp .lt 10, 3) := by decide +kernel
theorem dJ6_numberOfLeadingZeros_0f7a4_54 : decode cJ6_numberOfLeadingZeros_0f7a4 54 = .ok (.iinc 1 (-4), 3) := by decide +kernel
theorem dJ6_numberOfLeadingZeros_0f7a4_57 : decode cJ6_numberOfLeadingZeros_0f7a4 57 = .ok (.iload_n 0, 1) := by decide +kernel
theorem dJ6_numberOfLeadingZeros_0f7a4_58 : decode cJ6_numberOfLeadingZeros_0f7a4 58 = .ok (.iconst 4, 1) := by decide +kernel
theorem dJ6_numberOfLeadingZeros_0f7a4_59 : decode cJ6_numberOfLeadingZeros_0f7a4 59 = .ok (.iushr, 1) := by decide +kernel
theorem dJ6_numberOfLeadingZeros_0f7a4_60 : decode cJ6_numberOfLeadingZeros_0f7a4 60 = .ok (.istore_n 0, 1) := by decide +kernel
theorem dJ6_numberOfLeadingZeros_0f7a4_61 : decode cJ6_numberOfLeadingZeros_0f7a4 61 = .ok (.iload_n 0, 1) := by decide +kernel
theorem dJ6_numberOfLeadingZeros_0f7a4_62 : decode cJ6_numberOfLeadingZeros_0f7a4 62 = .ok (.iconst 4, 1) := by decide +kernel
theorem dJ6_numberOfLeadingZeros_0f7a4_63 : decode cJ6_numberOfLeadingZeros_0f7a4 63 = .ok (.if_icmp .lt 10, 3) := by decide +kernel
theorem dJ6_numberOfLeadingZeros_0f7a4_66 : decode cJ6_numberOfLeadingZeros_0f7a4 66 = .ok (.iinc 1 (-2), 3) := by decide +kernel
theorem dJ6_numberOfLeadingZeros_0f7a4_69 : decode cJ6_numberOfLeadingZeros_0f7a4 69 = .ok (.iload_n 0, 1) := by decide +kernel
theorem dJ6_numberOfLeadingZeros_0f7a4_70 : decode cJ6_numberOfLeadingZeros_0f7a4 70 = .ok (.iconst 2, 1) := by decide +kernel
theorem dJ6_numberOfLeadingZeros_0f7a4_71 : decode cJ6_numberOfLeadingZeros_0f7a4 71 = .ok (.iushr, 1) := by decide +kernel
theorem dJ6_numberOfLeadingZeros_0f7a4_72 : decode cJ6_numberOfLeadingZeros_0f7a4 72 = .ok (.istore_n 0, 1) := by decide +kernel
theorem dJ6_numberOfLeadingZeros_0f7a4_73 : decode cJ6_numberOfLeadingZeros_0f7a4 73 = .ok (.iload_n 1, 1) := by decide +kernel
theorem dJ6_numberOfLeadingZeros_0f7a4_74 : decode cJ6_numberOfLeadingZeros_0f7a4 74 = .ok (.iload_n 0, 1) := by decide +kernel
theorem dJ6_numberOfLeadingZeros_0f7a4_75 : decode cJ6_numberOfLeadingZeros_0f7a4 75 = .ok (.iconst 1, 1) := by decide +kernel
theorem dJ6_numberOfLeadingZeros_0f7a4_76 : decode cJ6_numberOfLeadingZeros_0f7a4 76 = .ok (.iushr, 1) := by decide +kernel
theorem dJ6_numberOfLeadingZeros_0f7a4_77 : decode cJ6_numberOfLeadingZeros_0f7a4 77 = .ok (.isub, 1) := by decide +kernel
theorem dJ6_numberOfLeadingZeros_0f7a4_78 : decode cJ6_numberOfLeadingZeros_0f7a4 78 = .ok (.ireturn, 1) := by decide +kernel
def g_J6_numberOfLeadingZeros_0f7a4_61 (h : zH)   (x0 : Int32) (x1 : Int32) : Option Int32 := if x0 < 4 then (some (x1 - ((x0.toUInt32 >>> ((1 : Int32).toUInt32 &&& Int32.toUInt32 31)).toInt32))) else (zlet ((x0.toUInt32 >>> ((2 : Int32).toUInt32 &&& Int32.toUInt32 31)).toInt32) fun v_10 => some ((x1 + (-2)) - ((v_10.toUInt32 >>> ((1 : Int32).toUInt32 &&& Int32.toUInt32 31)).toInt32)))
def g_J6_numberOfLeadingZeros_0f7a4_48 (h : zH)   (x0 : Int32) (x1 : Int32) : Option Int32 := if x0 < 16 then (g_J6_numberOfLeadingZeros_0f7a4_61 h x0 x1) else (zlet ((x0.toUInt32 >>> ((4 : Int32).toUInt32 &&& Int32.toUInt32 31)).toInt32) fun v_8 => g_J6_numberOfLeadingZeros_0f7a4_61 h v_8 (x1 + (-4)))
def g_J6_numberOfLeadingZeros_0f7a4_33 (h : zH)   (x0 : Int32) (x1 : Int32) : Option Int32 := if x0 < 256 then (g_J6_numberOfLeadingZeros_0f7a4_48 h x0 x1) else (zlet ((x0.toUInt32 >>> ((8 : Int32).toUInt32 &&& Int32.toUInt32 31)).toInt32) fun v_6 => g_J6_numberOfLeadingZeros_0f7a4_48 h v_6 (x1 + (-8)))
def g_J6_numberOfLeadingZeros_0f7a4 (h : zH) (x0 : Int32) : Option Int32 := if 0 < x0 then (if x0 < 65536 then (g_J6_numberOfLeadingZeros_0f7a4_33 h x0 31) else (zlet ((x0.toUInt32 >>> ((16 : Int32).toUInt32 &&& Int32.toUInt32 31)).toInt32) fun v_3 => g_J6_numberOfLeadingZeros_0f7a4_33 h v_3 (31 + (-16)))) else (if x0 = 0 then (some 32) else (some 0))
set_option maxRecDepth 100000 in
set_option maxHeartbeats 4000000 in
theorem b_J6_numberOfLeadingZeros_0f7a4_61 {K : zK} {G : zG} (hK : zC K G cJ6_numberOfLeadingZeros_0f7a4 RJ6 2 0 0 (some .int)) {h : zH} {r : Int32} (hE : zE K G (some (.int r)) h) (x0 : Int32) (x1 : Int32) (hg : g_J6_numberOfLeadingZeros_0f7a4_61 h x0 x1 = some r) : zW K G 2 61 [(0, .int x0), (1, .int x1)] [] h := by
  rw [g_J6_numberOfLeadingZeros_0f7a4_61] at hg
  refine z_iload_n (pc := 61) hK 0 dJ6_numberOfLeadingZeros_0f7a4_61 rfl (z_iconst (pc := 62) hK dJ6_numberOfLeadingZeros_0f7a4_62 zc_i4 (z_icmp_lt (pc := 63) hK 73 dJ6_numberOfLeadingZeros_0f7a4_63 (by decide) (fun c_9 => ?_) (fun c_9 => ?_)))
  · rw [if_pos c_9] at hg
    exact z_iload_n (pc := 73) hK 1 dJ6_numberOfLeadingZeros_0f7a4_73 rfl (z_iload_n (pc := 74) hK 0 dJ6_numberOfLeadingZeros_0f7a4_74 rfl (z_iconst (pc := 75) hK dJ6_numberOfLeadingZeros_0f7a4_75 zc_i1 (z_iushr (pc := 76) hK dJ6_numberOfLeadingZeros_0f7a4_76 rfl (z_isub (pc := 77) hK dJ6_numberOfLeadingZeros_0f7a4_77 (z_iretP (pc := 78) hK hE hg dJ6_numberOfLeadingZeros_0f7a4_78)))))
  · rw [if_neg c_9] at hg
    obtain ⟨v_10, ev_10, hg⟩ := zlet_some hg
    exact z_iinc (pc := 66) hK 1 (lv' := [(1, .int (x1 + (-2))), (0, .int x0)]) dJ6_numberOfLeadingZeros_0f7a4_66 rfl (zc_nm2 _) (by decide) rfl (z_iload_n (pc := 69) hK 1 dJ6_numberOfLeadingZeros_0f7a4_69 rfl (z_iconst (pc := 70) hK dJ6_numberOfLeadingZeros_0f7a4_70 zc_i2 (z_iushr (pc := 71) hK dJ6_numberOfLeadingZeros_0f7a4_71 rfl (z_nameI ev_10 (z_istore_n (pc := 72) hK (lv' := [(0, .int v_10), (1, .int (x1 + (-2)))]) dJ6_numberOfLeadingZeros_0f7a4_72 (by decide) rfl (z_iload_n (pc := 73) hK 1 dJ6_numberOfLeadingZeros_0f7a4_73 rfl (z_iload_n (pc := 74) hK 0 dJ6_numberOfLeadingZeros_0f7a4_74 rfl (z_iconst (pc := 75) hK dJ6_numberOfLeadingZeros_0f7a4_75 zc_i1 (z_iushr (pc := 76) hK dJ6_numberOfLeadingZeros_0f7a4_76 rfl (z_isub (pc := 77) hK dJ6_numberOfLeadingZeros_0f7a4_77 (z_iretP (pc := 78) hK hE hg dJ6_numberOfLeadingZeros_0f7a4_78)))))))))))
set_option maxRecDepth 100000 in
set_option maxHeartbeats 4000000 in
theorem b_J6_numberOfLeadingZeros_0f7a4_48 {K : zK} {G : zG} (hK : zC K G cJ6_numberOfLeadingZeros_0f7a4 RJ6 2 0 0 (some .int)) {h : zH} {r : Int32} (hE : zE K G (some (.int r)) h) (x0 : Int32) (x1 : Int32) (hg : g_J6_numberOfLeadingZeros_0f7a4_48 h x0 x1 = some r) : zW K G 2 48 [(0, .int x0), (1, .int x1)] [] h := by
  rw [g_J6_numberOfLeadingZeros_0f7a4_48] at hg
  refine z_iload_n (pc := 48) hK 0 dJ6_numberOfLeadingZeros_0f7a4_48 rfl (z_bipush (pc := 49) hK dJ6_numberOfLeadingZeros_0f7a4_49 zc_b16 (z_icmp_lt (pc := 51) hK 61 dJ6_numberOfLeadingZeros_0f7a4_51 (by decide) (fun c_7 => ?_) (fun c_7 => ?_)))
  · rw [if_pos c_7] at hg
    exact zsub (lv' := [(0, .int x0), (1, .int x1)]) [0, 1] rfl (b_J6_numberOfLeadingZeros_0f7a4_61 hK hE x0 x1 hg)
  · rw [if_neg c_7] at hg
    obtain ⟨v_8, ev_8, hg⟩ := zlet_some hg
    exact z_iinc (pc := 54) hK 1 (lv' := [(1, .int (x1 + (-4))), (0, .int x0)]) dJ6_numberOfLeadingZeros_0f7a4_54 rfl (zc_nm4 _) (by decide) rfl (z_iload_n (pc := 57) hK 1 dJ6_numberOfLeadingZeros_0f7a4_57 rfl (z_iconst (pc := 58) hK dJ6_numberOfLeadingZeros_0f7a4_58 zc_i4 (z_iushr (pc := 59) hK dJ6_numberOfLeadingZeros_0f7a4_59 rfl (z_nameI ev_8 (z_istore_n (pc := 60) hK (lv' := [(0, .int v_8), (1, .int (x1 + (-4)))]) dJ6_numberOfLeadingZeros_0f7a4_60 (by decide) rfl (zsub (lv' := [(0, .int v_8), (1, .int (x1 + (-4)))]) [0, 1] rfl (b_J6_numberOfLeadingZeros_0f7a4_61 hK hE v_8 (x1 + (-4)) hg)))))))
set_option maxRecDepth 100000 in
set_option maxHeartbeats 4000000 in
theorem b_J6_numberOfLeadingZeros_0f7a4_33 {K : zK} {G : zG} (hK : zC K G cJ6_numberOfLeadingZeros_0f7a4 RJ6 2 0 0 (some .int)) {h : zH} {r : Int32} (hE : zE K G (some (.int r)) h) (x0 : Int32) (x1 : Int32) (hg : g_J6_numberOfLeadingZeros_0f7a4_33 h x0 x1 = some r) : zW K G 2 33 [(0, .int x0), (1, .int x1)] [] h := by
  rw [g_J6_numberOfLeadingZeros_0f7a4_33] at hg
  refine z_iload_n (pc := 33) hK 0 dJ6_numberOfLeadingZeros_0f7a4_33 rfl (z_sipush (pc := 34) hK dJ6_numberOfLeadingZeros_0f7a4_34 zc_s256 (z_icmp_lt (pc := 37) hK 48 dJ6_numberOfLeadingZeros_0f7a4_37 (by decide) (fun c_5 => ?_) (fun c_5 => ?_)))
  · rw [if_pos c_5] at hg
    exact zsub (lv' := [(0, .int x0), (1, .int x1)]) [0, 1] rfl (b_J6_numberOfLeadingZeros_0f7a4_48 hK hE x0 x1 hg)
  · rw [if_neg c_5] at hg
    obtain ⟨v_6, ev_6, hg⟩ := zlet_some hg
    exact z_iinc (pc := 40) hK 1 (lv' := [(1, .int (x1 + (-8))), (0, .int x0)]) dJ6_numberOfLeadingZeros_0f7a4_40 rfl (zc_nm8 _) (by decide) rfl (z_iload_n (pc := 43) hK 1 dJ6_numberOfLeadingZeros_0f7a4_43 rfl (z_bipush (pc := 44) hK dJ6_numberOfLeadingZeros_0f7a4_44 zc_b8 (z_iushr (pc := 46) hK dJ6_numberOfLeadingZeros_0f7a4_46 rfl (z_nameI ev_6 (z_istore_n (pc := 47) hK (lv' := [(0, .int v_6), (1, .int (x1 + (-8)))]) dJ6_numberOfLeadingZeros_0f7a4_47 (by decide) rfl (zsub (lv' := [(0, .int v_6), (1, .int (x1 + (-8)))]) [0, 1] rfl (b_J6_numberOfLeadingZeros_0f7a4_48 hK hE v_6 (x1 + (-8)) hg)))))))
set_option maxRecDepth 100000 in
set_option maxHeartbeats 4000000 in
theorem b_J6_numberOfLeadingZeros_0f7a4 {K : zK} {G : zG} (hK : zC K G cJ6_numberOfLeadingZeros_0f7a4 RJ6 2 0 0 (some .int)) {h : zH} {x0 : Int32}  {r : Int32} (hE : zE K G (some (.int r)) h) (hg : g_J6_numberOfLeadingZeros_0f7a4 h x0 = some r) : zW K G 2 0 [(0, .int x0)] [] h := by
  rw [g_J6_numberOfLeadingZeros_0f7a4] at hg
  refine z_iload_n (pc := 0) hK 0 dJ6_numberOfLeadingZeros_0f7a4_0 rfl (z_if_gt (pc := 1) hK 15 dJ6_numberOfLeadingZeros_0f7a4_1 (by decide) (fun c_1 => ?_) (fun c_1 => ?_))
  · rw [if_pos c_1] at hg
    refine z_bipush (pc := 15) hK dJ6_numberOfLeadingZeros_0f7a4_15 zc_b31 (z_istore_n (pc := 17) hK (lv' := [(1, .int 31), (0, .int x0)]) dJ6_numberOfLeadingZeros_0f7a4_17 (by decide) rfl (z_iload_n (pc := 18) hK 1 dJ6_numberOfLeadingZeros_0f7a4_18 rfl (z_ldcw (pc := 19) hK q_1137 dJ6_numberOfLeadingZeros_0f7a4_19 (z_icmp_lt (pc := 22) hK 33 dJ6_numberOfLeadingZeros_0f7a4_22 (by decide) (fun c_2 => ?_) (fun c_2 => ?_)))))
    · rw [if_pos c_2] at hg
      exact zsub (lv' := [(0, .int x0), (1, .int 31)]) [1, 0] rfl (b_J6_numberOfLeadingZeros_0f7a4_33 hK hE x0 31 hg)
    · rw [if_neg c_2] at hg
      obtain ⟨v_3, ev_3, hg⟩ := zlet_some hg
      exact z_iinc (pc := 25) hK 0 (lv' := [(1, .int (31 + (-16))), (0, .int x0)]) dJ6_numberOfLeadingZeros_0f7a4_25 rfl (zc_nm16 _) (by decide) rfl (z_iload_n (pc := 28) hK 1 dJ6_numberOfLeadingZeros_0f7a4_28 rfl (z_bipush (pc := 29) hK dJ6_numberOfLeadingZeros_0f7a4_29 zc_b16 (z_iushr (pc := 31) hK dJ6_numberOfLeadingZeros_0f7a4_31 rfl (z_nameI ev_3 (z_istore_n (pc := 32) hK (lv' := [(0, .int v_3), (1, .int (31 + (-16)))]) dJ6_numberOfLeadingZeros_0f7a4_32 (by decide) rfl (zsub (lv' := [(0, .int v_3), (1, .int (31 + (-16)))]) [0, 1] rfl (b_J6_numberOfLeadingZeros_0f7a4_33 hK hE v_3 (31 + (-16)) hg)))))))
  · rw [if_neg c_1] at hg
    refine z_iload_n (pc := 4) hK 0 dJ6_numberOfLeadingZeros_0f7a4_4 rfl (z_if_ne (pc := 5) hK 13 dJ6_numberOfLeadingZeros_0f7a4_5 (by decide) (fun c_4 => ?_) (fun c_4 => ?_))
    · rw [if_neg c_4] at hg
      exact z_iconst (pc := 13) hK dJ6_numberOfLeadingZeros_0f7a4_13 zc_i0 (z_iretP (pc := 14) hK hE hg dJ6_numberOfLeadingZeros_0f7a4_14)
    · rw [if_pos c_4] at hg
      exact z_bipush (pc := 8) hK dJ6_numberOfLeadingZeros_0f7a4_8 zc_b32 (z_goto (pc := 10) hK 14 dJ6_numberOfLeadingZeros_0f7a4_10 (by decide) (z_iretP (pc := 14) hK hE hg dJ6_numberOfLeadingZeros_0f7a4_14))
theorem m_J6_numberOfLeadingZeros_0f7a4 {l : Launch} {G : zG} (hG : zD G) {h : zH} {x0 : Int32}  {r : Int32} (hg : g_J6_numberOfLeadingZeros_0f7a4 h x0 = some r) : zM l G yJ6_numberOfLeadingZeros_0f7a4 cJ6_numberOfLeadingZeros_0f7a4 2 (some .int) 0 0 [.int x0] h (some (.int r)) h :=
  zM_of hG pn_J6 (Nat.le_of_ble_eq_true rfl) (fun K _ hK hE => b_J6_numberOfLeadingZeros_0f7a4 hK  hE hg)
