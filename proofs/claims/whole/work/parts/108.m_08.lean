theorem dX11_bars_0 : decode cX11_bars 0 = .ok (.aload_n 0, 1) := by decide +kernel
theorem dX11_bars_1 : decode cX11_bars 1 = .ok (.getfield 54, 3) := by decide +kernel
theorem dX11_bars_4 : decode cX11_bars 4 = .ok (.getfield 231, 3) := by decide +kernel
theorem dX11_bars_7 : decode cX11_bars 7 = .ok (.istore_n 2, 1) := by decide +kernel
theorem dX11_bars_8 : decode cX11_bars 8 = .ok (.iload_n 1, 1) := by decide +kernel
theorem dX11_bars_9 : decode cX11_bars 9 = .ok (.ifCond .ne 8, 3) := by decide +kernel
theorem dX11_bars_12 : decode cX11_bars 12 = .ok (.iload_n 2, 1) := by decide +kernel
theorem dX11_bars_13 : decode cX11_bars 13 = .ok (.invokestatic 234, 3) := by decide +kernel
theorem dX11_bars_16 : decode cX11_bars 16 = .ok (.ireturn, 1) := by decide +kernel
theorem dX11_bars_17 : decode cX11_bars 17 = .ok (.iload_n 1, 1) := by decide +kernel
theorem dX11_bars_18 : decode cX11_bars 18 = .ok (.ifCond .lt 12, 3) := by decide +kernel
theorem dX11_bars_21 : decode cX11_bars 21 = .ok (.iload_n 1, 1) := by decide +kernel
theorem dX11_bars_22 : decode cX11_bars 22 = .ok (.iconst 2, 1) := by decide +kernel
theorem dX11_bars_23 : decode cX11_bars 23 = .ok (.if_icmp .gt 7, 3) := by decide +kernel
theorem dX11_bars_26 : decode cX11_bars 26 = .ok (.iload_n 2, 1) := by decide +kernel
theorem dX11_bars_27 : decode cX11_bars 27 = .ok (.ifCond .ne 5, 3) := by decide +kernel
theorem dX11_bars_30 : decode cX11_bars 30 = .ok (.iconst (-1), 1) := by decide +kernel
theorem dX11_bars_31 : decode cX11_bars 31 = .ok (.ireturn, 1) := by decide +kernel
theorem dX11_bars_32 : decode cX11_bars 32 = .ok (.iload_n 1, 1) := by decide +kernel
theorem dX11_bars_33 : decode cX11_bars 33 = .ok (.iconst 1, 1) := by decide +kernel
theorem dX11_bars_34 : decode cX11_bars 34 = .ok (.if_icmp .ne 10, 3) := by decide +kernel
theorem dX11_bars_37 : decode cX11_bars 37 = .ok (.iload_n 2, 1) := by decide +kernel
theorem dX11_bars_38 : decode cX11_bars 38 = .ok (.invokestatic 239, 3) := by decide +kernel
theorem dX11_bars_41 : decode cX11_bars 41 = .ok (.goto 10, 3) := by decide +kernel
theorem dX11_bars_44 : decode cX11_bars 44 = .ok (.bipush 31, 2) := by decide +kernel
theorem dX11_bars_46 : decode cX11_bars 46 = .ok (.iload_n 2, 1) := by decide +kernel
theorem dX11_bars_47 : decode cX11_bars 47 = .ok (.invokestatic 242, 3) := by decide +kernel
theorem dX11_bars_50 : decode cX11_bars 50 = .ok (.isub, 1) := by decide +kernel
theorem dX11_bars_51 : decode cX11_bars 51 = .ok (.ireturn, 1) := by decide +kernel
def g_X11_bars (h : zH) (t0 : Nat) (x1 : Int32) : Option Int32 := zlet (h.1 (zR t0 6) 3) fun v_1 => if x1 = 0 then ((g_J6_bitCount_0f7a4 h v_1).bind fun v_9 => some v_9) else (if x1 < 0 then (some (-1)) else (if 2 < x1 then (some (-1)) else (if v_1 = 0 then (some (-1)) else (if x1 = 1 then ((g_J6_numberOfTrailingZeros_0f7a4 h v_1).bind fun v_8 => some v_8) else ((g_J6_numberOfLeadingZeros_0f7a4 h v_1).bind fun v_7 => some (31 - v_7))))))
set_option maxRecDepth 100000 in
set_option maxHeartbeats 4000000 in
theorem b_X11_bars {K : zK} {G : zG} (hK : zC K G cX11_bars RX11 3 1 21 (some .int)) {h : zH} {t0 : Nat} {x1 : Int32} (ht0 : zT t0 = (10, 0)) {r : Int32} (hE : zE K G (some (.int r)) h) (hg : g_X11_bars h t0 x1 = some r) : zW K G 3 0 [(0, .ref (G.2.2.2 t0)), (1, .int x1)] [] h := by
  rw [g_X11_bars] at hg
  obtain ⟨v_1, ev_1, hg⟩ := zlet_some hg
  refine z_aload_n (pc := 0) hK 0 dX11_bars_0 rfl (z_getR (pc := 1) hK f_X11_54_10 ht0 dX11_bars_1 (z_getI (pc := 4) hK f_X11_231_2 (zt_10_6 ht0) dX11_bars_4 (z_nameI ev_1 (z_istore_n (pc := 7) hK (lv' := [(2, .int v_1), (0, .ref (G.2.2.2 t0)), (1, .int x1)]) dX11_bars_7 (by decide) rfl (z_iload_n (pc := 8) hK 2 dX11_bars_8 rfl (z_if_ne (pc := 9) hK 17 dX11_bars_9 (by decide) (fun c_2 => ?_) (fun c_2 => ?_)))))))
  · rw [if_neg c_2] at hg
    refine z_iload_n (pc := 17) hK 2 dX11_bars_17 rfl (z_if_lt (pc := 18) hK 30 dX11_bars_18 (by decide) (fun c_3 => ?_) (fun c_3 => ?_))
    · rw [if_pos c_3] at hg
      exact z_iconst (pc := 30) hK dX11_bars_30 zc_im1 (z_iretP (pc := 31) hK hE hg dX11_bars_31)
    · rw [if_neg c_3] at hg
      refine z_iload_n (pc := 21) hK 2 dX11_bars_21 rfl (z_iconst (pc := 22) hK dX11_bars_22 zc_i2 (z_icmp_gt (pc := 23) hK 30 dX11_bars_23 (by decide) (fun c_4 => ?_) (fun c_4 => ?_)))
      · rw [if_pos c_4] at hg
        exact z_iconst (pc := 30) hK dX11_bars_30 zc_im1 (z_iretP (pc := 31) hK hE hg dX11_bars_31)
      · rw [if_neg c_4] at hg
        refine z_iload_n (pc := 26) hK 0 dX11_bars_26 rfl (z_if_ne (pc := 27) hK 32 dX11_bars_27 (by decide) (fun c_5 => ?_) (fun c_5 => ?_))
        · rw [if_neg c_5] at hg
          refine z_iload_n (pc := 32) hK 2 dX11_bars_32 rfl (z_iconst (pc := 33) hK dX11_bars_33 zc_i1 (z_icmp_ne (pc := 34) hK 44 dX11_bars_34 (by decide) (fun c_6 => ?_) (fun c_6 => ?_)))
          · rw [if_neg c_6] at hg
            obtain ⟨v_7, qv_7, hg⟩ := zbind_some hg
            exact z_bipush (pc := 44) hK dX11_bars_44 zc_b31 (z_iload_n (pc := 46) hK 0 dX11_bars_46 rfl (z_callSi (pc := 47) hK [.int v_1] (m_J6_numberOfLeadingZeros_0f7a4 (zC_D hK) qv_7) ss_J6_numberOfLeadingZeros_0f7a4 q_1138 rfl [.int 31] rfl (Nat.le_of_ble_eq_true rfl) ⟨by decide, by decide⟩ dX11_bars_47 (z_isub (pc := 50) hK dX11_bars_50 (z_iretP (pc := 51) hK hE hg dX11_bars_51))))
          · rw [if_pos c_6] at hg
            obtain ⟨v_8, qv_8, hg⟩ := zbind_some hg
            exact z_iload_n (pc := 37) hK 0 dX11_bars_37 rfl (z_callSi (pc := 38) hK [.int v_1] (m_J6_numberOfTrailingZeros_0f7a4 (zC_D hK) qv_8) ss_J6_numberOfTrailingZeros_0f7a4 q_1134 rfl [] rfl (Nat.le_of_ble_eq_true rfl) ⟨by decide, by decide⟩ dX11_bars_38 (z_goto (pc := 41) hK 51 dX11_bars_41 (by decide) (z_iretP (pc := 51) hK hE hg dX11_bars_51)))
        · rw [if_pos c_5] at hg
          exact z_iconst (pc := 30) hK dX11_bars_30 zc_im1 (z_iretP (pc := 31) hK hE hg dX11_bars_31)
  · rw [if_pos c_2] at hg
    obtain ⟨v_9, qv_9, hg⟩ := zbind_some hg
    exact z_iload_n (pc := 12) hK 0 dX11_bars_12 rfl (z_callSi (pc := 13) hK [.int v_1] (m_J6_bitCount_0f7a4 (zC_D hK) qv_9) ss_J6_bitCount_0f7a4 q_1128 rfl [] rfl (Nat.le_of_ble_eq_true rfl) ⟨by decide, by decide⟩ dX11_bars_13 (z_iretP (pc := 16) hK hE hg dX11_bars_16))
theorem m_X11_bars {l : Launch} {G : zG} (hG : zD G) {h : zH} {t0 : Nat} {x1 : Int32} (ht0 : zT t0 = (10, 0)) {r : Int32} (hg : g_X11_bars h t0 x1 = some r) : zM l G yX11_bars cX11_bars 3 (some .int) 1 21 [.ref (G.2.2.2 t0), .int x1] h (some (.int r)) h :=
  zM_of hG pn_X11 (Nat.le_of_ble_eq_true rfl) (fun K _ hK hE => b_X11_bars hK ht0 hE hg)
theorem dX11_ask_0 : decode cX11_ask 0 = .ok (.aload_n 0, 1) := by decide +kernel
theorem dX11_ask_1 : decode cX11_ask 1 = .ok (.getfield 54, 3) := by decide +kernel
theorem dX11_ask_4 : decode cX11_ask 4 = .ok (.getfield 231, 3) := by decide +kernel
theorem dX11_ask_7 : decode cX11_ask 7 = .ok (.invokestatic 234, 3) := by decide +kernel
theorem dX11_ask_10 : decode cX11_ask 10 = .ok (.istore_n 1, 1) := by decide +kernel
theorem dX11_ask_11 : decode cX11_ask 11 = .ok (.iconst (-1), 1) := by decide +kernel
theorem dX11_ask_12 : decode cX11_ask 12 = .ok (.istore_n 2, 1) := by decide +kernel
theorem dX11_ask_13 : decode cX11_ask 13 = .ok (.iload_n 1, 1) := by decide +kernel
theorem dX11_ask_14 : decode cX11_ask 14 = .ok (.istore_n 3, 1) := by decide +kernel
theorem dX11_ask_15 : decode cX11_ask 15 = .ok (.iconst 0, 1) := by decide +kernel
theorem dX11_ask_16 : decode cX11_ask 16 = .ok (.istore 4, 2) := by decide +kernel
theorem dX11_ask_18 : decode cX11_ask 18 = .ok (.iload 4, 2) := by decide +kernel
theorem dX11_ask_20 : decode cX11_ask 20 = .ok (.bipush 9, 2) := by decide +kernel
theorem dX11_ask_22 : decode cX11_ask 22 = .ok (.if_icmp .gt 50, 3) := by decide +kernel
theorem dX11_ask_25 : decode cX11_ask 25 = .ok (.aload_n 0, 1) := by decide +kernel
theorem dX11_ask_26 : decode cX11_ask 26 = .ok (.getfield 54, 3) := by decide +kernel
theorem dX11_ask_29 : decode cX11_ask 29 = .ok (.getfield 231, 3) := by decide +kernel
theorem dX11_ask_32 : decode cX11_ask 32 = .ok (.iload 4, 2) := by decide +kernel
theorem dX11_ask_34 : decode cX11_ask 34 = .ok (.invokestatic 228, 3) := by decide +kernel
theorem dX11_ask_37 : decode cX11_ask 37 = .ok (.iand, 1) := by decide +kernel
theorem dX11_ask_38 : decode cX11_ask 38 = .ok (.invokestatic 234, 3) := by decide +kernel
theorem dX11_ask_41 : decode cX11_ask 41 = .ok (.istore 5, 2) := by decide +kernel
theorem dX11_ask_43 : decode cX11_ask 43 = .ok (.iload 5, 2) := by decide +kernel
theorem dX11_ask_45 : decode cX11_ask 45 = .ok (.iload_n 1, 1) := by decide +kernel
theorem dX11_ask_46 : decode cX11_ask 46 = .ok (.iload 5, 2) := by decide +kernel
theorem dX11_ask_48 : decode cX11_ask 48 = .ok (.isub, 1) := by decide +kernel
theorem dX11_ask_49 : decode cX11_ask 49 = .ok (.invokestatic 245, 3) := by decide +kernel
theorem dX11_ask_52 : decode cX11_ask 52 = .ok (.istore 6, 2) := by decide +kernel
theorem dX11_ask_54 : decode cX11_ask 54 = .ok (.iload 6, 2) := by decide +kernel
theorem dX11_ask_56 : decode cX11_ask 56 = .ok (.iload_n 3, 1) := by decide +kernel
theorem dX11_ask_57 : decode cX11_ask 57 = .ok (.if_icmp .ge 9, 3) := by decide +kernel
theorem dX11_ask_60 : decode cX11_ask 60 = .ok (.iload 6, 2) := by decide +kernel
theorem dX11_ask_62 : decode cX11_ask 62 = .ok (.istore_n 3, 1) := by decide +kernel
theorem dX11_ask_63 : decode cX11_ask 63 = .ok (.iload 4, 2) := by decide +kernel
theorem dX11_ask_65 : decode cX11_ask 65 = .ok (.istore_n 2, 1) := by decide +kernel
theorem dX11_ask_66 : decode cX11_ask 66 = .ok (.iinc 4 1, 3) := by decide +kernel
theorem dX11_ask_69 : decode cX11_ask 69 = .ok (.goto (-51), 3) := by decide +kernel
theorem dX11_ask_72 : decode cX11_ask 72 = .ok (.iload_n 2, 1) := by decide +kernel
theorem dX11_ask_73 : decode cX11_ask 73 = .ok (.ireturn, 1) := by decide +kernel
def g_X11_ask_18 (h : zH) (t0 : Nat)  : Nat → Int32 → Int32 → Int32 → Int32 → Option Int32
  | 0, _, _, _, _ => none
  | n + 1, x1, x2, x3, x4 => if 9 < x4 then (some x2) else ((g_X11_barsUpTo h x4).bind fun v_3 => (g_J6_bitCount_0f7a4 h ((h.1 (zR t0 6) 3) &&& v_3)).bind fun v_4 => zlet (if v_4 < (x1 - v_4) then (x1 - v_4) else v_4) fun v_5 => if x3 ≤ v_5 then (g_X11_ask_18 h t0 n x1 x2 x3 (x4 + 1)) else (g_X11_ask_18 h t0 n x1 x4 v_5 (x4 + 1)))
def g_X11_ask (h : zH) (t0 : Nat) : Option Int32 := (g_J6_bitCount_0f7a4 h (h.1 (zR t0 6) 3)).bind fun v_1 => g_X11_ask_18 h t0 zfu v_1 (-1) v_1 0
set_option maxRecDepth 100000 in
set_option maxHeartbeats 4000000 in
theorem b_X11_ask_18 {K : zK} {G : zG} (hK : zC K G cX11_ask RX11 7 1 20 (some .int)) {h : zH} {t0 : Nat} (ht0 : zT t0 = (10, 0)) {r : Int32} (hE : zE K G (some (.int r)) h) : ∀ (n : Nat) (x1 : Int32) (x2 : Int32) (x3 : Int32) (x4 : Int32), g_X11_ask_18 h t0 n x1 x2 x3 x4 = some r → zW K G 7 18 [(0, .ref (G.2.2.2 t0)), (1, .int x1), (2, .int x2), (3, .int x3), (4, .int x4)] [] h := by
  intro n
  induction n with
  | zero => intro x1 x2 x3 x4 hg; exact nomatch (show none = some r from hg)
  | succ n ih =>
    intro x1 x2 x3 x4 hg
    rw [g_X11_ask_18] at hg
    refine z_iload (pc := 18) hK 4 dX11_ask_18 rfl (z_bipush (pc := 20) hK dX11_ask_20 zc_b9 (z_icmp_gt (pc := 22) hK 72 dX11_ask_22 (by decide) (fun c_2 => ?_) (fun c_2 => ?_)))
    · rw [if_pos c_2] at hg
      exact z_iload_n (pc := 72) hK 2 dX11_ask_72 rfl (z_iretP (pc := 73) hK hE hg dX11_ask_73)
    · rw [if_neg c_2] at hg
      obtain ⟨v_3, qv_3, hg⟩ := zbind_some hg
      obtain ⟨v_4, qv_4, hg⟩ := zbind_some hg
      obtain ⟨v_5, ev_5, hg⟩ := zlet_some hg
      refine z_aload_n (pc := 25) hK 0 dX11_ask_25 rfl (z_getR (pc := 26) hK f_X11_54_10 ht0 dX11_ask_26 (z_getI (pc := 29) hK f_X11_231_2 (zt_10_6 ht0) dX11_ask_29 (z_iload (pc := 32) hK 4 dX11_ask_32 rfl (z_callSi (pc := 34) hK [.int x4] (m_X11_barsUpTo (zC_D hK) qv_3) ss_X11_barsUpTo q_1121 rfl [.int (h.1 (zR t0 6) 3)] rfl (Nat.le_of_ble_eq_true rfl) ⟨by decide, by decide⟩ dX11_ask_34 (z_iand (pc := 37) hK dX11_ask_37 (z_callSi (pc := 38) hK [.int ((h.1 (zR t0 6) 3) &&& v_3)] (m_J6_bitCount_0f7a4 (zC_D hK) qv_4) ss_J6_bitCount_0f7a4 q_1128 rfl [] rfl (Nat.le_of_ble_eq_true rfl) ⟨by decide, by decide⟩ dX11_ask_38 (z_istore (pc := 41) hK (lv' := [(5, .int v_4), (0, .ref (G.2.2.2 t0)), (1, .int x1), (2, .int x2), (3, .int x3), (4, .int x4)]) dX11_ask_41 (by decide) rfl (z_iload (pc := 43) hK 0 dX11_ask_43 rfl (z_iload_n (pc := 45) hK 2 dX11_ask_45 rfl (z_iload (pc := 46) hK 0 dX11_ask_46 rfl (z_isub (pc := 48) hK dX11_ask_48 (z_mmax (pc := 49) hK q_1145 zw_max ⟨by decide, Nat.le_of_ble_eq_true rfl⟩ dX11_ask_49 (z_nameI ev_5 (z_istore (pc := 52) hK (lv' := [(6, .int v_5), (5, .int v_4), (0, .ref (G.2.2.2 t0)), (1, .int x1), (2, .int x2), (3, .int x3), (4, .int x4)]) dX11_ask_52 (by decide) rfl (z_iload (pc := 54) hK 0 dX11_ask_54 rfl (z_iload_n (pc := 56) hK 5 dX11_ask_56 rfl (z_icmp_ge (pc := 57) hK 66 dX11_ask_57 (by decide) (fun c_6 => ?_) (fun c_6 => ?_))))))))))))))))))
      · rw [if_pos c_6] at hg
        exact z_iinc (pc := 66) hK 6 (lv' := [(4, .int (x4 + 1)), (6, .int v_5), (5, .int v_4), (0, .ref (G.2.2.2 t0)), (1, .int x1), (2, .int x2), (3, .int x3)]) dX11_ask_66 rfl (zc_n1 _) (by decide) rfl (z_goto (pc := 69) hK 18 dX11_ask_69 (by decide) (zsub (lv' := [(0, .ref (G.2.2.2 t0)), (1, .int x1), (2, .int x2), (3, .int x3), (4, .int (x4 + 1))]) [3, 4, 5, 6, 0] rfl (ih x1 x2 x3 (x4 + 1) hg)))
      · rw [if_neg c_6] at hg
        exact z_iload (pc := 60) hK 0 dX11_ask_60 rfl (z_istore_n (pc := 62) hK (lv' := [(3, .int v_5), (6, .int v_5), (5, .int v_4), (0, .ref (G.2.2.2 t0)), (1, .int x1), (2, .int x2), (4, .int x4)]) dX11_ask_62 (by decide) rfl (z_iload (pc := 63) hK 6 dX11_ask_63 rfl (z_istore_n (pc := 65) hK (lv' := [(2, .int x4), (3, .int v_5), (6, .int v_5), (5, .int v_4), (0, .ref (G.2.2.2 t0)), (1, .int x1), (4, .int x4)]) dX11_ask_65 (by decide) rfl (z_iinc (pc := 66) hK 6 (lv' := [(4, .int (x4 + 1)), (2, .int x4), (3, .int v_5), (6, .int v_5), (5, .int v_4), (0, .ref (G.2.2.2 t0)), (1, .int x1)]) dX11_ask_66 rfl (zc_n1 _) (by decide) rfl (z_goto (pc := 69) hK 18 dX11_ask_69 (by decide) (zsub (lv' := [(0, .ref (G.2.2.2 t0)), (1, .int x1), (2, .int x4), (3, .int v_5), (4, .int (x4 + 1))]) [5, 6, 1, 2, 0] rfl (ih x1 x4 v_5 (x4 + 1) hg)))))))
set_option maxRecDepth 100000 in
set_option maxHeartbeats 4000000 in
theorem b_X11_ask {K : zK} {G : zG} (hK : zC K G cX11_ask RX11 7 1 20 (some .int)) {h : zH} {t0 : Nat} (ht0 : zT t0 = (10, 0)) {r : Int32} (hE : zE K G (some (.int r)) h) (hg : g_X11_ask h t0 = some r) : zW K G 7 0 [(0, .ref (G.2.2.2 t0))] [] h := by
  rw [g_X11_ask] at hg
  obtain ⟨v_1, qv_1, hg⟩ := zbind_some hg
  exact z_aload_n (pc := 0) hK 0 dX11_ask_0 rfl (z_getR (pc := 1) hK f_X11_54_10 ht0 dX11_ask_1 (z_getI (pc := 4) hK f_X11_231_2 (zt_10_6 ht0) dX11_ask_4 (z_callSi (pc := 7) hK [.int (h.1 (zR t0 6) 3)] (m_J6_bitCount_0f7a4 (zC_D hK) qv_1) ss_J6_bitCount_0f7a4 q_1128 rfl [] rfl (Nat.le_of_ble_eq_true rfl) ⟨by decide, by decide⟩ dX11_ask_7 (z_istore_n (pc := 10) hK (lv' := [(1, .int v_1), (0, .ref (G.2.2.2 t0))]) dX11_ask_10 (by decide) rfl (z_iconst (pc := 11) hK dX11_ask_11 zc_im1 (z_istore_n (pc := 12) hK (lv' := [(2, .int (-1)), (1, .int v_1), (0, .ref (G.2.2.2 t0))]) dX11_ask_12 (by decide) rfl (z_iload_n (pc := 13) hK 1 dX11_ask_13 rfl (z_istore_n (pc := 14) hK (lv' := [(3, .int v_1), (2, .int (-1)), (1, .int v_1), (0, .ref (G.2.2.2 t0))]) dX11_ask_14 (by decide) rfl (z_iconst (pc := 15) hK dX11_ask_15 zc_i0 (z_istore (pc := 16) hK (lv' := [(4, .int 0), (3, .int v_1), (2, .int (-1)), (1, .int v_1), (0, .ref (G.2.2.2 t0))]) dX11_ask_16 (by decide) rfl (zsub (lv' := [(0, .ref (G.2.2.2 t0)), (1, .int v_1), (2, .int (-1)), (3, .int v_1), (4, .int 0)]) [4, 3, 2, 1, 0] rfl (b_X11_ask_18 hK ht0 hE zfu v_1 (-1) v_1 0 hg))))))))))))
theorem m_X11_ask {l : Launch} {G : zG} (hG : zD G) {h : zH} {t0 : Nat} (ht0 : zT t0 = (10, 0)) {r : Int32} (hg : g_X11_ask h t0 = some r) : zM l G yX11_ask cX11_ask 7 (some .int) 1 20 [.ref (G.2.2.2 t0)] h (some (.int r)) h :=
  zM_of hG pn_X11 (Nat.le_of_ble_eq_true rfl) (fun K _ hK hE => b_X11_ask hK ht0 hE hg)
theorem dX11_governsBy_0 : decode cX11_governsBy 0 = .ok (.aload_n 0, 1) := by decide +kernel
theorem dX11_governsBy_1 : decode cX11_governsBy 1 = .ok (.getfield 48, 3) := by decide +kernel
theorem dX11_governsBy_4 : decode cX11_governsBy 4 = .ok (.aload_n 0, 1) := by decide +kernel
theorem dX11_governsBy_5 : decode cX11_governsBy 5 = .ok (.getfield 54, 3) := by decide +kernel
theorem dX11_governsBy_8 : decode cX11_governsBy 8 = .ok (.getfield 123, 3) := by decide +kernel
theorem dX11_governsBy_11 : decode cX11_governsBy 11 = .ok (.invokevirtual 193, 3) := by decide +kernel
theorem dX11_governsBy_14 : decode cX11_governsBy 14 = .ok (.iconst 0, 1) := by decide +kernel
theorem dX11_governsBy_15 : decode cX11_governsBy 15 = .ok (.istore 4, 2) := by decide +kernel
theorem dX11_governsBy_17 : decode cX11_governsBy 17 = .ok (.iload 4, 2) := by decide +kernel
theorem dX11_governsBy_19 : decode cX11_governsBy 19 = .ok (.aload_n 0, 1) := by decide +kernel
theorem dX11_governsBy_20 : decode cX11_governsBy 20 = .ok (.getfield 19, 3) := by decide +kernel
theorem dX11_governsBy_23 : decode cX11_governsBy 23 = .ok (.getfield 216, 3) := by decide +kernel
theorem dX11_governsBy_26 : decode cX11_governsBy 26 = .ok (.if_icmp .ge 29, 3) := by decide +kernel
theorem dX11_governsBy_29 : decode cX11_governsBy 29 = .ok (.iload_n 1, 1) := by decide +kernel
theorem dX11_governsBy_30 : decode cX11_governsBy 30 = .ok (.iload 4, 2) := by decide +kernel
theorem dX11_governsBy_32 : decode cX11_governsBy 32 = .ok (.ishr, 1) := by decide +kernel
theorem dX11_governsBy_33 : decode cX11_governsBy 33 = .ok (.iconst 1, 1) := by decide +kernel
theorem dX11_governsBy_34 : decode cX11_governsBy 34 = .ok (.iand, 1) := by decide +kernel
theorem dX11_governsBy_35 : decode cX11_governsBy 35 = .ok (.iconst 1, 1) := by decide +kernel
theorem dX11_governsBy_36 : decode cX11_governsBy 36 = .ok (.if_icmp .ne 13, 3) := by decide +kernel
theorem dX11_governsBy_39 : decode cX11_governsBy 39 = .ok (.aload_n 0, 1) := by decide +kernel
theorem dX11_governsBy_40 : decode cX11_governsBy 40 = .ok (.getfield 48, 3) := by decide +kernel
theorem dX11_governsBy_43 : decode cX11_governsBy 43 = .ok (.iload 4, 2) := by decide +kernel
theorem dX11_governsBy_45 : decode cX11_governsBy 45 = .ok (.iload_n 2, 1) := by decide +kernel
theorem dX11_governsBy_46 : decode cX11_governsBy 46 = .ok (.invokevirtual 176, 3) := by decide +kernel
theorem dX11_governsBy_49 : decode cX11_governsBy 49 = .ok (.iinc 4 1, 3) := by decide +kernel
theorem dX11_governsBy_52 : decode cX11_governsBy 52 = .ok (.goto (-35), 3) := by decide +kernel
theorem dX11_governsBy_55 : decode cX11_governsBy 55 = .ok (.aload_n 0, 1) := by decide +kernel
theorem dX11_governsBy_56 : decode cX11_governsBy 56 = .ok (.getfield 48, 3) := by decide +kernel
theorem dX11_governsBy_59 : decode cX11_governsBy 59 = .ok (.invokevirtual 152, 3) := by decide +kernel
theorem dX11_governsBy_62 : decode cX11_governsBy 62 = .ok (.iload_n 3, 1) := by decide +kernel
theorem dX11_governsBy_63 : decode cX11_governsBy 63 = .ok (.if_icmp .ne 7, 3) := by decide +kernel
theorem dX11_governsBy_66 : decode cX11_governsBy 66 = .ok (.iconst 1, 1) := by decide +kernel
theorem dX11_governsBy_67 : decode cX11_governsBy 67 = .ok (.goto 4, 3) := by decide +kernel
theorem dX11_governsBy_70 : decode cX11_governsBy 70 = .ok (.iconst 0, 1) := by decide +kernel
theorem dX11_governsBy_71 : decode cX11_governsBy 71 = .ok (.ireturn, 1) := by decide +kernel
def g_X11_governsBy_17 (t0 : Nat)  : Nat → Int32 → Int32 → Int32 → Int32 → zH → Option (Bool × zH)
  | 0, _, _, _, _, _ => none
  | n + 1, x1, x2, x3, x4, h => if (h.1 (zR t0 1) 7) ≤ x4 then ((g_X7_governor h (zR t0 5)).bind fun v_3 => if v_3 = x3 then (some (true, h)) else (some (false, h))) else (if ((x1 >>> (x4 &&& 31)) &&& 1) = 1 then ((g_X7_vote h (zR t0 5) x4 x2).bind fun v_6 => g_X11_governsBy_17 t0 n x1 x2 x3 (x4 + 1) v_6) else (g_X11_governsBy_17 t0 n x1 x2 x3 (x4 + 1) h))
def g_X11_governsBy (h : zH) (t0 : Nat) (x1 : Int32) (x2 : Int32) (x3 : Int32) : Option (Bool × zH) := (g_X7_become h (zR t0 5) (zR (zR t0 6) 0)).bind fun v_1 => g_X11_governsBy_17 t0 zfu x1 x2 x3 0 v_1
set_option maxRecDepth 100000 in
set_option maxHeartbeats 4000000 in
theorem b_X11_governsBy_17 {K : zK} {G : zG} (hK : zC K G cX11_governsBy RX11 5 4 89 (some .boolean)) {t0 : Nat} (ht0 : zT t0 = (10, 0)) {r : Bool × zH} (hE : zE K G (some (.int (zb r.1))) r.2) : ∀ (n : Nat) (x1 : Int32) (x2 : Int32) (x3 : Int32) (x4 : Int32) (h : zH), g_X11_governsBy_17 t0 n x1 x2 x3 x4 h = some r → zW K G 5 17 [(0, .ref (G.2.2.2 t0)), (1, .int x1), (2, .int x2), (3, .int x3), (4, .int x4)] [] h := by
  intro n
  induction n with
  | zero => intro x1 x2 x3 x4 h hg; exact nomatch (show none = some r from hg)
  | succ n ih =>
    intro x1 x2 x3 x4 h hg
    rw [g_X11_governsBy_17] at hg
    refine z_iload (pc := 17) hK 4 dX11_governsBy_17 rfl (z_aload_n (pc := 19) hK 0 dX11_governsBy_19 rfl (z_getR (pc := 20) hK f_X11_19_10 ht0 dX11_governsBy_20 (z_getI (pc := 23) hK f_X11_216_4 (zt_10_1 ht0) dX11_governsBy_23 (z_icmp_ge (pc := 26) hK 55 dX11_governsBy_26 (by decide) (fun c_2 => ?_) (fun c_2 => ?_)))))
    · rw [if_pos c_2] at hg
      obtain ⟨v_3, qv_3, hg⟩ := zbind_some hg
      refine z_aload_n (pc := 55) hK 0 dX11_governsBy_55 rfl (z_getR (pc := 56) hK f_X11_48_10 ht0 dX11_governsBy_56 (z_callVi (pc := 59) hK [] (m_X7_governor (zC_D hK) (zt_10_5 ht0) qv_3) sv_X7_governor q_909 (zt_10_5 ht0) rfl [] rfl (Nat.le_of_ble_eq_true rfl) ⟨by decide, by decide⟩ dX11_governsBy_59 (z_iload_n (pc := 62) hK 3 dX11_governsBy_62 rfl (z_icmp_ne (pc := 63) hK 70 dX11_governsBy_63 (by decide) (fun c_4 => ?_) (fun c_4 => ?_)))))
      · rw [if_neg c_4] at hg
        exact z_iconst (pc := 70) hK dX11_governsBy_70 zc_i0 (z_zretE (pc := 71) hK rfl hE hg dX11_governsBy_71)
      · rw [if_pos c_4] at hg
        exact z_iconst (pc := 66) hK dX11_governsBy_66 zc_i1 (z_goto (pc := 67) hK 71 dX11_governsBy_67 (by decide) (z_zretE (pc := 71) hK rfl hE hg dX11_governsBy_71))
    · rw [if_neg c_2] at hg
      refine z_iload_n (pc := 29) hK 1 dX11_governsBy_29 rfl (z_iload (pc := 30) hK 4 dX11_governsBy_30 rfl (z_ishr (pc := 32) hK dX11_governsBy_32 (z_iconst (pc := 33) hK dX11_governsBy_33 zc_i1 (z_iand (pc := 34) hK dX11_governsBy_34 (z_iconst (pc := 35) hK dX11_governsBy_35 zc_i1 (z_icmp_ne (pc := 36) hK 49 dX11_governsBy_36 (by decide) (fun c_5 => ?_) (fun c_5 => ?_)))))))
      · rw [if_neg c_5] at hg
        exact z_iinc (pc := 49) hK 4 (lv' := [(4, .int (x4 + 1)), (0, .ref (G.2.2.2 t0)), (1, .int x1), (2, .int x2), (3, .int x3)]) dX11_governsBy_49 rfl (zc_n1 _) (by decide) rfl (z_goto (pc := 52) hK 17 dX11_governsBy_52 (by decide) (zsub (lv' := [(0, .ref (G.2.2.2 t0)), (1, .int x1), (2, .int x2), (3, .int x3), (4, .int (x4 + 1))]) [1, 2, 3, 4, 0] rfl (ih x1 x2 x3 (x4 + 1) h hg)))
      · rw [if_pos c_5] at hg
        obtain ⟨v_6, qv_6, hg⟩ := zbind_some hg
        exact z_aload_n (pc := 39) hK 0 dX11_governsBy_39 rfl (z_getR (pc := 40) hK f_X11_48_10 ht0 dX11_governsBy_40 (z_iload (pc := 43) hK 4 dX11_governsBy_43 rfl (z_iload_n (pc := 45) hK 2 dX11_governsBy_45 rfl (z_callVv (pc := 46) hK [.int x4, .int x2] (m_X7_vote (zC_D hK) (zt_10_5 ht0) qv_6) sv_X7_vote q_1004 (zt_10_5 ht0) rfl [] rfl (Nat.le_of_ble_eq_true rfl) ⟨by decide, by decide⟩ dX11_governsBy_46 (z_iinc (pc := 49) hK 4 (lv' := [(4, .int (x4 + 1)), (0, .ref (G.2.2.2 t0)), (1, .int x1), (2, .int x2), (3, .int x3)]) dX11_governsBy_49 rfl (zc_n1 _) (by decide) rfl (z_goto (pc := 52) hK 17 dX11_governsBy_52 (by decide) (zsub (lv' := [(0, .ref (G.2.2.2 t0)), (1, .int x1), (2, .int x2), (3, .int x3), (4, .int (x4 + 1))]) [1, 2, 3, 4, 0] rfl (ih x1 x2 x3 (x4 + 1) v_6 hg))))))))
set_option maxRecDepth 100000 in
set_option maxHeartbeats 4000000 in
theorem b_X11_governsBy {K : zK} {G : zG} (hK : zC K G cX11_governsBy RX11 5 4 89 (some .boolean)) {h : zH} {t0 : Nat} {x1 : Int32} {x2 : Int32} {x3 : Int32} (ht0 : zT t0 = (10, 0)) {r : Bool × zH} (hE : zE K G (some (.int (zb r.1))) r.2) (hg : g_X11_governsBy h t0 x1 x2 x3 = some r) : zW K G 5 0 [(0, .ref (G.2.2.2 t0)), (1, .int x1), (2, .int x2), (3, .int x3)] [] h := by
  rw [g_X11_governsBy] at hg
  obtain ⟨v_1, qv_1, hg⟩ := zbind_some hg
  exact z_aload_n (pc := 0) hK 0 dX11_governsBy_0 rfl (z_getR (pc := 1) hK f_X11_48_10 ht0 dX11_governsBy_1 (z_aload_n (pc := 4) hK 0 dX11_governsBy_4 rfl (z_getR (pc := 5) hK f_X11_54_10 ht0 dX11_governsBy_5 (z_getR (pc := 8) hK f_X11_123_2 (zt_10_6 ht0) dX11_governsBy_8 (z_callVv (pc := 11) hK [.ref (G.2.2.2 (zR (zR t0 6) 0))] (m_X7_become (zC_D hK) (zt_10_5 ht0) (zt_2_0 (zt_10_6 ht0)) qv_1) sv_X7_become q_1054 (zt_10_5 ht0) rfl [] rfl (Nat.le_of_ble_eq_true rfl) ⟨by decide, by decide⟩ dX11_governsBy_11 (z_iconst (pc := 14) hK dX11_governsBy_14 zc_i0 (z_istore (pc := 15) hK (lv' := [(4, .int 0), (0, .ref (G.2.2.2 t0)), (1, .int x1), (2, .int x2), (3, .int x3)]) dX11_governsBy_15 (by decide) rfl (zsub (lv' := [(0, .ref (G.2.2.2 t0)), (1, .int x1), (2, .int x2), (3, .int x3), (4, .int 0)]) [1, 2, 3, 4, 0] rfl (b_X11_governsBy_17 hK ht0 hE zfu x1 x2 x3 0 v_1 hg)))))))))
theorem m_X11_governsBy {l : Launch} {G : zG} (hG : zD G) {h : zH} {t0 : Nat} {x1 : Int32} {x2 : Int32} {x3 : Int32} (ht0 : zT t0 = (10, 0)) {r : Bool × zH} (hg : g_X11_governsBy h t0 x1 x2 x3 = some r) : zM l G yX11_governsBy cX11_governsBy 5 (some .boolean) 4 89 [.ref (G.2.2.2 t0), .int x1, .int x2, .int x3] h (some (.int (zb r.1))) r.2 :=
  zM_of hG pn_X11 (Nat.le_of_ble_eq_true rfl) (fun K _ hK hE => b_X11_governsBy hK ht0 hE hg)
theorem dX11_sets_0 : decode cX11_sets 0 = .ok (.iload_n 3, 1) := by decide +kernel
theorem dX11_sets_1 : decode cX11_sets 1 = .ok (.ifCond .lt 23, 3) := by decide +kernel
theorem dX11_sets_4 : decode cX11_sets 4 = .ok (.iload_n 3, 1) := by decide +kernel
theorem dX11_sets_5 : decode cX11_sets 5 = .ok (.iconst 2, 1) := by decide +kernel
theorem dX11_sets_6 : decode cX11_sets 6 = .ok (.if_icmp .gt 18, 3) := by decide +kernel
theorem dX11_sets_9 : decode cX11_sets 9 = .ok (.aload_n 0, 1) := by decide +kernel
theorem dX11_sets_10 : decode cX11_sets 10 = .ok (.getfield 54, 3) := by decide +kernel
theorem dX11_sets_13 : decode cX11_sets 13 = .ok (.getfield 123, 3) := by decide +kernel
theorem dX11_sets_16 : decode cX11_sets 16 = .ok (.iload_n 1, 1) := by decide +kernel
theorem dX11_sets_17 : decode cX11_sets 17 = .ok (.iload_n 2, 1) := by decide +kernel
theorem dX11_sets_18 : decode cX11_sets 18 = .ok (.invokevirtual 166, 3) := by decide +kernel
theorem dX11_sets_21 : decode cX11_sets 21 = .ok (.ifCond .ne 5, 3) := by decide +kernel
theorem dX11_sets_24 : decode cX11_sets 24 = .ok (.iconst (-1), 1) := by decide +kernel
theorem dX11_sets_25 : decode cX11_sets 25 = .ok (.ireturn, 1) := by decide +kernel
theorem dX11_sets_26 : decode cX11_sets 26 = .ok (.aload_n 0, 1) := by decide +kernel
theorem dX11_sets_27 : decode cX11_sets 27 = .ok (.getfield 54, 3) := by decide +kernel
theorem dX11_sets_30 : decode cX11_sets 30 = .ok (.getfield 123, 3) := by decide +kernel
theorem dX11_sets_33 : decode cX11_sets 33 = .ok (.invokevirtual 250, 3) := by decide +kernel
theorem dX11_sets_36 : decode cX11_sets 36 = .ok (.iconst 1, 1) := by decide +kernel
theorem dX11_sets_37 : decode cX11_sets 37 = .ok (.iload_n 1, 1) := by decide +kernel
theorem dX11_sets_38 : decode cX11_sets 38 = .ok (.ishl, 1) := by decide +kernel
theorem dX11_sets_39 : decode cX11_sets 39 = .ok (.iconst (-1), 1) := by decide +kernel
theorem dX11_sets_40 : decode cX11_sets 40 = .ok (.ixor, 1) := by decide +kernel
theorem dX11_sets_41 : decode cX11_sets 41 = .ok (.iand, 1) := by decide +kernel
theorem dX11_sets_42 : decode cX11_sets 42 = .ok (.iconst 1, 1) := by decide +kernel
theorem dX11_sets_43 : decode cX11_sets 43 = .ok (.iload_n 2, 1) := by decide +kernel
theorem dX11_sets_44 : decode cX11_sets 44 = .ok (.ishl, 1) := by decide +kernel
theorem dX11_sets_45 : decode cX11_sets 45 = .ok (.iconst (-1), 1) := by decide +kernel
theorem dX11_sets_46 : decode cX11_sets 46 = .ok (.ixor, 1) := by decide +kernel
theorem dX11_sets_47 : decode cX11_sets 47 = .ok (.iand, 1) := by decide +kernel
theorem dX11_sets_48 : decode cX11_sets 48 = .ok (.istore 4, 2) := by decide +kernel
theorem dX11_sets_50 : decode cX11_sets 50 = .ok (.iconst 0, 1) := by decide +kernel
theorem dX11_sets_51 : decode cX11_sets 51 = .ok (.istore 5, 2) := by decide +kernel
theorem dX11_sets_53 : decode cX11_sets 53 = .ok (.iload 4, 2) := by decide +kernel
theorem dX11_sets_55 : decode cX11_sets 55 = .ok (.istore 6, 2) := by decide +kernel
theorem dX11_sets_57 : decode cX11_sets 57 = .ok (.iconst 0, 1) := by decide +kernel
theorem dX11_sets_58 : decode cX11_sets 58 = .ok (.istore 7, 2) := by decide +kernel
theorem dX11_sets_60 : decode cX11_sets 60 = .ok (.iconst 0, 1) := by decide +kernel
theorem dX11_sets_61 : decode cX11_sets 61 = .ok (.istore 8, 2) := by decide +kernel
theorem dX11_sets_63 : decode cX11_sets 63 = .ok (.iload 8, 2) := by decide +kernel
theorem dX11_sets_65 : decode cX11_sets 65 = .ok (.sipush 128, 3) := by decide +kernel
theorem dX11_sets_68 : decode cX11_sets 68 = .ok (.if_icmp .ge 47, 3) := by decide +kernel
theorem dX11_sets_71 : decode cX11_sets 71 = .ok (.iload 8, 2) := by decide +kernel
theorem dX11_sets_73 : decode cX11_sets 73 = .ok (.iload 4, 2) := by decide +kernel
theorem dX11_sets_75 : decode cX11_sets 75 = .ok (.iconst (-1), 1) := by decide +kernel
theorem dX11_sets_76 : decode cX11_sets 76 = .ok (.ixor, 1) := by decide +kernel
theorem dX11_sets_77 : decode cX11_sets 77 = .ok (.iand, 1) := by decide +kernel
theorem dX11_sets_78 : decode cX11_sets 78 = .ok (.ifCond .ne 31, 3) := by decide +kernel
theorem dX11_sets_81 : decode cX11_sets 81 = .ok (.aload_n 0, 1) := by decide +kernel
theorem dX11_sets_82 : decode cX11_sets 82 = .ok (.iload 8, 2) := by decide +kernel
theorem dX11_sets_84 : decode cX11_sets 84 = .ok (.iload_n 1, 1) := by decide +kernel
theorem dX11_sets_85 : decode cX11_sets 85 = .ok (.iload_n 2, 1) := by decide +kernel
theorem dX11_sets_86 : decode cX11_sets 86 = .ok (.invokevirtual 253, 3) := by decide +kernel
theorem dX11_sets_89 : decode cX11_sets 89 = .ok (.ifCond .eq 20, 3) := by decide +kernel
theorem dX11_sets_92 : decode cX11_sets 92 = .ok (.iinc 5 1, 3) := by decide +kernel
theorem dX11_sets_95 : decode cX11_sets 95 = .ok (.iload 6, 2) := by decide +kernel
theorem dX11_sets_97 : decode cX11_sets 97 = .ok (.iload 8, 2) := by decide +kernel
theorem dX11_sets_99 : decode cX11_sets 99 = .ok (.iand, 1) := by decide +kernel
theorem dX11_sets_100 : decode cX11_sets 100 = .ok (.istore 6, 2) := by decide +kernel
theorem dX11_sets_102 : decode cX11_sets 102 = .ok (.iload 7, 2) := by decide +kernel
theorem dX11_sets_104 : decode cX11_sets 104 = .ok (.iload 8, 2) := by decide +kernel
theorem dX11_sets_106 : decode cX11_sets 106 = .ok (.ior, 1) := by decide +kernel
theorem dX11_sets_107 : decode cX11_sets 107 = .ok (.istore 7, 2) := by decide +kernel
theorem dX11_sets_109 : decode cX11_sets 109 = .ok (.iinc 8 1, 3) := by decide +kernel
theorem dX11_sets_112 : decode cX11_sets 112 = .ok (.goto (-49), 3) := by decide +kernel
theorem dX11_sets_115 : decode cX11_sets 115 = .ok (.iload_n 3, 1) := by decide +kernel
theorem dX11_sets_116 : decode cX11_sets 116 = .ok (.ifCond .ne 6, 3) := by decide +kernel
theorem dX11_sets_119 : decode cX11_sets 119 = .ok (.iload 5, 2) := by decide +kernel
theorem dX11_sets_121 : decode cX11_sets 121 = .ok (.ireturn, 1) := by decide +kernel
theorem dX11_sets_122 : decode cX11_sets 122 = .ok (.iload 5, 2) := by decide +kernel
theorem dX11_sets_124 : decode cX11_sets 124 = .ok (.ifCond .ne 5, 3) := by decide +kernel
theorem dX11_sets_127 : decode cX11_sets 127 = .ok (.iconst (-1), 1) := by decide +kernel
theorem dX11_sets_128 : decode cX11_sets 128 = .ok (.ireturn, 1) := by decide +kernel
theorem dX11_sets_129 : decode cX11_sets 129 = .ok (.iload_n 3, 1) := by decide +kernel
theorem dX11_sets_130 : decode cX11_sets 130 = .ok (.iconst 1, 1) := by decide +kernel
theorem dX11_sets_131 : decode cX11_sets 131 = .ok (.if_icmp .ne 8, 3) := by decide +kernel
theorem dX11_sets_134 : decode cX11_sets 134 = .ok (.iload 6, 2) := by decide +kernel
theorem dX11_sets_136 : decode cX11_sets 136 = .ok (.goto 5, 3) := by decide +kernel
theorem dX11_sets_139 : decode cX11_sets 139 = .ok (.iload 7, 2) := by decide +kernel
theorem dX11_sets_141 : decode cX11_sets 141 = .ok (.ireturn, 1) := by decide +kernel
def g_X11_sets_63 (t0 : Nat)  : Nat → Int32 → Int32 → Int32 → Int32 → Int32 → Int32 → Int32 → Int32 → zH → Option (Int32 × zH)
  | 0, _, _, _, _, _, _, _, _, _ => none
  | n + 1, x1, x2, x3, x4, x5, x6, x7, x8, h => if 128 ≤ x8 then (if x3 = 0 then (some (x5, h)) else (if x5 = 0 then (some ((-1), h)) else (if x3 = 1 then (some (x6, h)) else (some (x7, h))))) else (if (x8 &&& (x4 ^^^ (-1))) = 0 then ((g_X11_governsBy h t0 x8 x1 x2).bind fun v_12 => if (zb v_12.1) = 0 then (g_X11_sets_63 t0 n x1 x2 x3 x4 x5 x6 x7 (x8 + 1) v_12.2) else (g_X11_sets_63 t0 n x1 x2 x3 x4 (x5 + 1) (x6 &&& x8) (x7 ||| x8) (x8 + 1) v_12.2)) else (g_X11_sets_63 t0 n x1 x2 x3 x4 x5 x6 x7 (x8 + 1) h))
def g_X11_sets (h : zH) (t0 : Nat) (x1 : Int32) (x2 : Int32) (x3 : Int32) : Option (Int32 × zH) := if x3 < 0 then (some ((-1), h)) else (if 2 < x3 then (some ((-1), h)) else ((g_X7_areTwoAlive h (zR (zR t0 6) 0) x1 x2).bind fun v_3 => if (zb v_3) = 0 then (some ((-1), h)) else ((g_X7_voters h (zR (zR t0 6) 0)).bind fun v_5 => zlet ((v_5 &&& (((1 : Int32) <<< (x1 &&& 31)) ^^^ (-1))) &&& (((1 : Int32) <<< (x2 &&& 31)) ^^^ (-1))) fun v_6 => g_X11_sets_63 t0 zfu x1 x2 x3 v_6 0 v_6 0 0 h)))
set_option maxRecDepth 100000 in
set_option maxHeartbeats 4000000 in
theorem b_X11_sets_63 {K : zK} {G : zG} (hK : zC K G cX11_sets RX11 9 5 113 (some .int)) {t0 : Nat} (ht0 : zT t0 = (10, 0)) {r : Int32 × zH} (hE : zE K G (some (.int r.1)) r.2) : ∀ (n : Nat) (x1 : Int32) (x2 : Int32) (x3 : Int32) (x4 : Int32) (x5 : Int32) (x6 : Int32) (x7 : Int32) (x8 : Int32) (h : zH), g_X11_sets_63 t0 n x1 x2 x3 x4 x5 x6 x7 x8 h = some r → zW K G 9 63 [(0, .ref (G.2.2.2 t0)), (1, .int x1), (2, .int x2), (3, .int x3), (4, .int x4), (5, .int x5), (6, .int x6), (7, .int x7), (8, .int x8)] [] h := by
  intro n
  induction n with
  | zero => intro x1 x2 x3 x4 x5 x6 x7 x8 h hg; exact nomatch (show none = some r from hg)
  | succ n ih =>
    intro x1 x2 x3 x4 x5 x6 x7 x8 h hg
    rw [g_X11_sets_63] at hg
    refine z_iload (pc := 63) hK 8 dX11_sets_63 rfl (z_sipush (pc := 65) hK dX11_sets_65 zc_s128 (z_icmp_ge (pc := 68) hK 115 dX11_sets_68 (by decide) (fun c_7 => ?_) (fun c_7 => ?_)))
    · rw [if_pos c_7] at hg
      refine z_iload_n (pc := 115) hK 3 dX11_sets_115 rfl (z_if_ne (pc := 116) hK 122 dX11_sets_116 (by decide) (fun c_8 => ?_) (fun c_8 => ?_))
      · rw [if_neg c_8] at hg
        refine z_iload (pc := 122) hK 5 dX11_sets_122 rfl (z_if_ne (pc := 124) hK 129 dX11_sets_124 (by decide) (fun c_9 => ?_) (fun c_9 => ?_))
        · rw [if_neg c_9] at hg
          refine z_iload_n (pc := 129) hK 3 dX11_sets_129 rfl (z_iconst (pc := 130) hK dX11_sets_130 zc_i1 (z_icmp_ne (pc := 131) hK 139 dX11_sets_131 (by decide) (fun c_10 => ?_) (fun c_10 => ?_)))
          · rw [if_neg c_10] at hg
            exact z_iload (pc := 139) hK 7 dX11_sets_139 rfl (z_iretE (pc := 141) hK hE hg dX11_sets_141)
          · rw [if_pos c_10] at hg
            exact z_iload (pc := 134) hK 6 dX11_sets_134 rfl (z_goto (pc := 136) hK 141 dX11_sets_136 (by decide) (z_iretE (pc := 141) hK hE hg dX11_sets_141))
        · rw [if_pos c_9] at hg
          exact z_iconst (pc := 127) hK dX11_sets_127 zc_im1 (z_iretE (pc := 128) hK hE hg dX11_sets_128)
      · rw [if_pos c_8] at hg
        exact z_iload (pc := 119) hK 5 dX11_sets_119 rfl (z_iretE (pc := 121) hK hE hg dX11_sets_121)
    · rw [if_neg c_7] at hg
      refine z_iload (pc := 71) hK 8 dX11_sets_71 rfl (z_iload (pc := 73) hK 4 dX11_sets_73 rfl (z_iconst (pc := 75) hK dX11_sets_75 zc_im1 (z_ixor (pc := 76) hK dX11_sets_76 (z_iand (pc := 77) hK dX11_sets_77 (z_if_ne (pc := 78) hK 109 dX11_sets_78 (by decide) (fun c_11 => ?_) (fun c_11 => ?_))))))
      · rw [if_neg c_11] at hg
        exact z_iinc (pc := 109) hK 8 (lv' := [(8, .int (x8 + 1)), (0, .ref (G.2.2.2 t0)), (1, .int x1), (2, .int x2), (3, .int x3), (4, .int x4), (5, .int x5), (6, .int x6), (7, .int x7)]) dX11_sets_109 rfl (zc_n1 _) (by decide) rfl (z_goto (pc := 112) hK 63 dX11_sets_112 (by decide) (zsub (lv' := [(0, .ref (G.2.2.2 t0)), (1, .int x1), (2, .int x2), (3, .int x3), (4, .int x4), (5, .int x5), (6, .int x6), (7, .int x7), (8, .int (x8 + 1))]) [1, 2, 3, 4, 5, 6, 7, 8, 0] rfl (ih x1 x2 x3 x4 x5 x6 x7 (x8 + 1) h hg)))
      · rw [if_pos c_11] at hg
        obtain ⟨v_12, qv_12, hg⟩ := zbind_some hg
        refine z_aload_n (pc := 81) hK 0 dX11_sets_81 rfl (z_iload (pc := 82) hK 8 dX11_sets_82 rfl (z_iload_n (pc := 84) hK 1 dX11_sets_84 rfl (z_iload_n (pc := 85) hK 2 dX11_sets_85 rfl (z_callVi (pc := 86) hK [.int x8, .int x1, .int x2] (m_X11_governsBy (zC_D hK) ht0 qv_12) sv_X11_governsBy q_1154 ht0 rfl [] rfl (Nat.le_of_ble_eq_true rfl) ⟨by decide, by decide⟩ dX11_sets_86 (z_if_eq (pc := 89) hK 109 dX11_sets_89 (by decide) (fun c_13 => ?_) (fun c_13 => ?_))))))
        · rw [if_pos c_13] at hg
          exact z_iinc (pc := 109) hK 8 (lv' := [(8, .int (x8 + 1)), (0, .ref (G.2.2.2 t0)), (1, .int x1), (2, .int x2), (3, .int x3), (4, .int x4), (5, .int x5), (6, .int x6), (7, .int x7)]) dX11_sets_109 rfl (zc_n1 _) (by decide) rfl (z_goto (pc := 112) hK 63 dX11_sets_112 (by decide) (zsub (lv' := [(0, .ref (G.2.2.2 t0)), (1, .int x1), (2, .int x2), (3, .int x3), (4, .int x4), (5, .int x5), (6, .int x6), (7, .int x7), (8, .int (x8 + 1))]) [1, 2, 3, 4, 5, 6, 7, 8, 0] rfl (ih x1 x2 x3 x4 x5 x6 x7 (x8 + 1) v_12.2 hg)))
        · rw [if_neg c_13] at hg
          exact z_iinc (pc := 92) hK 5 (lv' := [(5, .int (x5 + 1)), (0, .ref (G.2.2.2 t0)), (1, .int x1), (2, .int x2), (3, .int x3), (4, .int x4), (6, .int x6), (7, .int x7), (8, .int x8)]) dX11_sets_92 rfl (zc_n1 _) (by decide) rfl (z_iload (pc := 95) hK 6 dX11_sets_95 rfl (z_iload (pc := 97) hK 8 dX11_sets_97 rfl (z_iand (pc := 99) hK dX11_sets_99 (z_istore (pc := 100) hK (lv' := [(6, .int (x6 &&& x8)), (5, .int (x5 + 1)), (0, .ref (G.2.2.2 t0)), (1, .int x1), (2, .int x2), (3, .int x3), (4, .int x4), (7, .int x7), (8, .int x8)]) dX11_sets_100 (by decide) rfl (z_iload (pc := 102) hK 7 dX11_sets_102 rfl (z_iload (pc := 104) hK 8 dX11_sets_104 rfl (z_ior (pc := 106) hK dX11_sets_106 (z_istore (pc := 107) hK (lv' := [(7, .int (x7 ||| x8)), (6, .int (x6 &&& x8)), (5, .int (x5 + 1)), (0, .ref (G.2.2.2 t0)), (1, .int x1), (2, .int x2), (3, .int x3), (4, .int x4), (8, .int x8)]) dX11_sets_107 (by decide) rfl (z_iinc (pc := 109) hK 8 (lv' := [(8, .int (x8 + 1)), (7, .int (x7 ||| x8)), (6, .int (x6 &&& x8)), (5, .int (x5 + 1)), (0, .ref (G.2.2.2 t0)), (1, .int x1), (2, .int x2), (3, .int x3), (4, .int x4)]) dX11_sets_109 rfl (zc_n1 _) (by decide) rfl (z_goto (pc := 112) hK 63 dX11_sets_112 (by decide) (zsub (lv' := [(0, .ref (G.2.2.2 t0)), (1, .int x1), (2, .int x2), (3, .int x3), (4, .int x4), (5, .int (x5 + 1)), (6, .int (x6 &&& x8)), (7, .int (x7 ||| x8)), (8, .int (x8 + 1))]) [4, 5, 6, 7, 8, 3, 2, 1, 0] rfl (ih x1 x2 x3 x4 (x5 + 1) (x6 &&& x8) (x7 ||| x8) (x8 + 1) v_12.2 hg))))))))))))
set_option maxRecDepth 100000 in
set_option maxHeartbeats 4000000 in
theorem b_X11_sets {K : zK} {G : zG} (hK : zC K G cX11_sets RX11 9 5 113 (some .int)) {h : zH} {t0 : Nat} {x1 : Int32} {x2 : Int32} {x3 : Int32} (ht0 : zT t0 = (10, 0)) {r : Int32 × zH} (hE : zE K G (some (.int r.1)) r.2) (hg : g_X11_sets h t0 x1 x2 x3 = some r) : zW K G 9 0 [(0, .ref (G.2.2.2 t0)), (1, .int x1), (2, .int x2), (3, .int x3)] [] h := by
  rw [g_X11_sets] at hg
  refine z_iload_n (pc := 0) hK 3 dX11_sets_0 rfl (z_if_lt (pc := 1) hK 24 dX11_sets_1 (by decide) (fun c_1 => ?_) (fun c_1 => ?_))
  · rw [if_pos c_1] at hg
    exact z_iconst (pc := 24) hK dX11_sets_24 zc_im1 (z_iretE (pc := 25) hK hE hg dX11_sets_25)
  · rw [if_neg c_1] at hg
    refine z_iload_n (pc := 4) hK 3 dX11_sets_4 rfl (z_iconst (pc := 5) hK dX11_sets_5 zc_i2 (z_icmp_gt (pc := 6) hK 24 dX11_sets_6 (by decide) (fun c_2 => ?_) (fun c_2 => ?_)))
    · rw [if_pos c_2] at hg
      exact z_iconst (pc := 24) hK dX11_sets_24 zc_im1 (z_iretE (pc := 25) hK hE hg dX11_sets_25)
    · rw [if_neg c_2] at hg
      obtain ⟨v_3, qv_3, hg⟩ := zbind_some hg
      refine z_aload_n (pc := 9) hK 0 dX11_sets_9 rfl (z_getR (pc := 10) hK f_X11_54_10 ht0 dX11_sets_10 (z_getR (pc := 13) hK f_X11_123_2 (zt_10_6 ht0) dX11_sets_13 (z_iload_n (pc := 16) hK 1 dX11_sets_16 rfl (z_iload_n (pc := 17) hK 2 dX11_sets_17 rfl (z_callVi (pc := 18) hK [.int x1, .int x2] (m_X7_areTwoAlive (zC_D hK) (zt_2_0 (zt_10_6 ht0)) qv_3) sv_X7_areTwoAlive q_983 (zt_2_0 (zt_10_6 ht0)) rfl [] rfl (Nat.le_of_ble_eq_true rfl) ⟨by decide, by decide⟩ dX11_sets_18 (z_if_ne (pc := 21) hK 26 dX11_sets_21 (by decide) (fun c_4 => ?_) (fun c_4 => ?_)))))))
      · rw [if_neg c_4] at hg
        obtain ⟨v_5, qv_5, hg⟩ := zbind_some hg
        obtain ⟨v_6, ev_6, hg⟩ := zlet_some hg
        exact z_aload_n (pc := 26) hK 0 dX11_sets_26 rfl (z_getR (pc := 27) hK f_X11_54_10 ht0 dX11_sets_27 (z_getR (pc := 30) hK f_X11_123_2 (zt_10_6 ht0) dX11_sets_30 (z_callVi (pc := 33) hK [] (m_X7_voters (zC_D hK) (zt_2_0 (zt_10_6 ht0)) qv_5) sv_X7_voters q_1150 (zt_2_0 (zt_10_6 ht0)) rfl [] rfl (Nat.le_of_ble_eq_true rfl) ⟨by decide, by decide⟩ dX11_sets_33 (z_iconst (pc := 36) hK dX11_sets_36 zc_i1 (z_iload_n (pc := 37) hK 1 dX11_sets_37 rfl (z_ishl (pc := 38) hK dX11_sets_38 (z_iconst (pc := 39) hK dX11_sets_39 zc_im1 (z_ixor (pc := 40) hK dX11_sets_40 (z_iand (pc := 41) hK dX11_sets_41 (z_iconst (pc := 42) hK dX11_sets_42 zc_i1 (z_iload_n (pc := 43) hK 2 dX11_sets_43 rfl (z_ishl (pc := 44) hK dX11_sets_44 (z_iconst (pc := 45) hK dX11_sets_45 zc_im1 (z_ixor (pc := 46) hK dX11_sets_46 (z_iand (pc := 47) hK dX11_sets_47 (z_nameI ev_6 (z_istore (pc := 48) hK (lv' := [(4, .int v_6), (0, .ref (G.2.2.2 t0)), (1, .int x1), (2, .int x2), (3, .int x3)]) dX11_sets_48 (by decide) rfl (z_iconst (pc := 50) hK dX11_sets_50 zc_i0 (z_istore (pc := 51) hK (lv' := [(5, .int 0), (4, .int v_6), (0, .ref (G.2.2.2 t0)), (1, .int x1), (2, .int x2), (3, .int x3)]) dX11_sets_51 (by decide) rfl (z_iload (pc := 53) hK 1 dX11_sets_53 rfl (z_istore (pc := 55) hK (lv' := [(6, .int v_6), (5, .int 0), (4, .int v_6), (0, .ref (G.2.2.2 t0)), (1, .int x1), (2, .int x2), (3, .int x3)]) dX11_sets_55 (by decide) rfl (z_iconst (pc := 57) hK dX11_sets_57 zc_i0 (z_istore (pc := 58) hK (lv' := [(7, .int 0), (6, .int v_6), (5, .int 0), (4, .int v_6), (0, .ref (G.2.2.2 t0)), (1, .int x1), (2, .int x2), (3, .int x3)]) dX11_sets_58 (by decide) rfl (z_iconst (pc := 60) hK dX11_sets_60 zc_i0 (z_istore (pc := 61) hK (lv' := [(8, .int 0), (7, .int 0), (6, .int v_6), (5, .int 0), (4, .int v_6), (0, .ref (G.2.2.2 t0)), (1, .int x1), (2, .int x2), (3, .int x3)]) dX11_sets_61 (by decide) rfl (zsub (lv' := [(0, .ref (G.2.2.2 t0)), (1, .int x1), (2, .int x2), (3, .int x3), (4, .int v_6), (5, .int 0), (6, .int v_6), (7, .int 0), (8, .int 0)]) [5, 6, 7, 8, 4, 3, 2, 1, 0] rfl (b_X11_sets_63 hK ht0 hE zfu x1 x2 x3 v_6 0 v_6 0 0 h hg)))))))))))))))))))))))))))
      · rw [if_pos c_4] at hg
        exact z_iconst (pc := 24) hK dX11_sets_24 zc_im1 (z_iretE (pc := 25) hK hE hg dX11_sets_25)
theorem m_X11_sets {l : Launch} {G : zG} (hG : zD G) {h : zH} {t0 : Nat} {x1 : Int32} {x2 : Int32} {x3 : Int32} (ht0 : zT t0 = (10, 0)) {r : Int32 × zH} (hg : g_X11_sets h t0 x1 x2 x3 = some r) : zM l G yX11_sets cX11_sets 9 (some .int) 5 113 [.ref (G.2.2.2 t0), .int x1, .int x2, .int x3] h (some (.int r.1)) r.2 :=
  zM_of hG pn_X11 (Nat.le_of_ble_eq_true rfl) (fun K _ hK hE => b_X11_sets hK ht0 hE hg)
theorem dX11_ease_0 : decode cX11_ease 0 = .ok (.iconst 0, 1) := by decide +kernel
theorem dX11_ease_1 : decode cX11_ease 1 = .ok (.istore_n 1, 1) := by decide +kernel
theorem dX11_ease_2 : decode cX11_ease 2 = .ok (.iconst 0, 1) := by decide +kernel
theorem dX11_ease_3 : decode cX11_ease 3 = .ok (.istore_n 2, 1) := by decide +kernel
theorem dX11_ease_4 : decode cX11_ease 4 = .ok (.iload_n 2, 1) := by decide +kernel
theorem dX11_ease_5 : decode cX11_ease 5 = .ok (.aload_n 0, 1) := by decide +kernel
theorem dX11_ease_6 : decode cX11_ease 6 = .ok (.getfield 19, 3) := by decide +kernel
theorem dX11_ease_9 : decode cX11_ease 9 = .ok (.getfield 216, 3) := by decide +kernel
theorem dX11_ease_12 : decode cX11_ease 12 = .ok (.if_icmp .ge 63, 3) := by decide +kernel
theorem dX11_ease_15 : decode cX11_ease 15 = .ok (.iload_n 2, 1) := by decide +kernel
theorem dX11_ease_16 : decode cX11_ease 16 = .ok (.iconst 1, 1) := by decide +kernel
theorem dX11_ease_17 : decode cX11_ease 17 = .ok (.iadd, 1) := by decide +kernel
theorem dX11_ease_18 : decode cX11_ease 18 = .ok (.istore_n 3, 1) := by decide +kernel
theorem dX11_ease_19 : decode cX11_ease 19 = .ok (.iload_n 3, 1) := by decide +kernel
theorem dX11_ease_20 : decode cX11_ease 20 = .ok (.aload_n 0, 1) := by decide +kernel
theorem dX11_ease_21 : decode cX11_ease 21 = .ok (.getfield 19, 3) := by decide +kernel
theorem dX11_ease_24 : decode cX11_ease 24 = .ok (.getfield 216, 3) := by decide +kernel
theorem dX11_ease_27 : decode cX11_ease 27 = .ok (.if_icmp .ge 42, 3) := by decide +kernel
theorem dX11_ease_30 : decode cX11_ease 30 = .ok (.aload_n 0, 1) := by decide +kernel
theorem dX11_ease_31 : decode cX11_ease 31 = .ok (.getfield 54, 3) := by decide +kernel
theorem dX11_ease_34 : decode cX11_ease 34 = .ok (.getfield 123, 3) := by decide +kernel
theorem dX11_ease_37 : decode cX11_ease 37 = .ok (.iload_n 2, 1) := by decide +kernel
theorem dX11_ease_38 : decode cX11_ease 38 = .ok (.iload_n 3, 1) := by decide +kernel
theorem dX11_ease_39 : decode cX11_ease 39 = .ok (.invokevirtual 257, 3) := by decide +kernel
theorem dX11_ease_42 : decode cX11_ease 42 = .ok (.ifCond .eq 21, 3) := by decide +kernel
theorem dX11_ease_45 : decode cX11_ease 45 = .ok (.aload_n 0, 1) := by decide +kernel
theorem dX11_ease_46 : decode cX11_ease 46 = .ok (.getfield 54, 3) := by decide +kernel
theorem dX11_ease_49 : decode cX11_ease 49 = .ok (.getfield 123, 3) := by decide +kernel
theorem dX11_ease_52 : decode cX11_ease 52 = .ok (.iload_n 3, 1) := by decide +kernel
theorem dX11_ease_53 : decode cX11_ease 53 = .ok (.iload_n 2, 1) := by decide +kernel
theorem dX11_ease_54 : decode cX11_ease 54 = .ok (.invokevirtual 257, 3) := by decide +kernel
theorem dX11_ease_57 : decode cX11_ease 57 = .ok (.ifCond .eq 6, 3) := by decide +kernel
theorem dX11_ease_60 : decode cX11_ease 60 = .ok (.iinc 1 1, 3) := by decide +kernel
theorem dX11_ease_63 : decode cX11_ease 63 = .ok (.iinc 3 1, 3) := by decide +kernel
theorem dX11_ease_66 : decode cX11_ease 66 = .ok (.goto (-47), 3) := by decide +kernel
theorem dX11_ease_69 : decode cX11_ease 69 = .ok (.iinc 2 1, 3) := by decide +kernel
theorem dX11_ease_72 : decode cX11_ease 72 = .ok (.goto (-68), 3) := by decide +kernel
theorem dX11_ease_75 : decode cX11_ease 75 = .ok (.iload_n 1, 1) := by decide +kernel
theorem dX11_ease_76 : decode cX11_ease 76 = .ok (.ireturn, 1) := by decide +kernel
def g_X11_ease_19 (h : zH) (t0 : Nat) (k4 : Int32 → Int32 → Option Int32) : Nat → Int32 → Int32 → Int32 → Option Int32
  | 0, _, _, _ => none
  | n + 1, x1, x2, x3 => if (h.1 (zR t0 1) 7) ≤ x3 then (k4 x1 (x2 + 1)) else ((g_X7_isThreat h (zR (zR t0 6) 0) x2 x3).bind fun v_3 => if (zb v_3) = 0 then (g_X11_ease_19 h t0 k4 n x1 x2 (x3 + 1)) else ((g_X7_isThreat h (zR (zR t0 6) 0) x3 x2).bind fun v_5 => if (zb v_5) = 0 then (g_X11_ease_19 h t0 k4 n x1 x2 (x3 + 1)) else (g_X11_ease_19 h t0 k4 n (x1 + 1) x2 (x3 + 1))))
def g_X11_ease_4 (h : zH) (t0 : Nat)  : Nat → Int32 → Int32 → Option Int32
  | 0, _, _ => none
  | n + 1, x1, x2 => if (h.1 (zR t0 1) 7) ≤ x2 then (some x1) else (g_X11_ease_19 h t0 (g_X11_ease_4 h t0 n) zfu x1 x2 (x2 + 1))
def g_X11_ease (h : zH) (t0 : Nat) : Option Int32 := g_X11_ease_4 h t0 zfu 0 0
set_option maxRecDepth 100000 in
set_option maxHeartbeats 4000000 in
theorem b_X11_ease_19 {K : zK} {G : zG} (hK : zC K G cX11_ease RX11 4 3 68 (some .int)) {h : zH} {t0 : Nat} (ht0 : zT t0 = (10, 0)) {r : Int32} (hE : zE K G (some (.int r)) h) {k4 : Int32 → Int32 → Option Int32} (hk4 : ∀ (x1 : Int32) (x2 : Int32), k4 x1 x2 = some r → zW K G 4 4 [(0, .ref (G.2.2.2 t0)), (1, .int x1), (2, .int x2)] [] h) : ∀ (n : Nat) (x1 : Int32) (x2 : Int32) (x3 : Int32), g_X11_ease_19 h t0 k4 n x1 x2 x3 = some r → zW K G 4 19 [(0, .ref (G.2.2.2 t0)), (1, .int x1), (2, .int x2), (3, .int x3)] [] h := by
  intro n
  induction n with
  | zero => intro x1 x2 x3 hg; exact nomatch (show none = some r from hg)
  | succ n ih =>
    intro x1 x2 x3 hg
    rw [g_X11_ease_19] at hg
    refine z_iload_n (pc := 19) hK 3 dX11_ease_19 rfl (z_aload_n (pc := 20) hK 0 dX11_ease_20 rfl (z_getR (pc := 21) hK f_X11_19_10 ht0 dX11_ease_21 (z_getI (pc := 24) hK f_X11_216_4 (zt_10_1 ht0) dX11_ease_24 (z_icmp_ge (pc := 27) hK 69 dX11_ease_27 (by decide) (fun c_2 => ?_) (fun c_2 => ?_)))))
    · rw [if_pos c_2] at hg
      exact z_iinc (pc := 69) hK 2 (lv' := [(2, .int (x2 + 1)), (0, .ref (G.2.2.2 t0)), (1, .int x1), (3, .int x3)]) dX11_ease_69 rfl (zc_n1 _) (by decide) rfl (z_goto (pc := 72) hK 4 dX11_ease_72 (by decide) (zsub (lv' := [(0, .ref (G.2.2.2 t0)), (1, .int x1), (2, .int (x2 + 1))]) [1, 2, 0] rfl (hk4 x1 (x2 + 1) hg)))
    · rw [if_neg c_2] at hg
      obtain ⟨v_3, qv_3, hg⟩ := zbind_some hg
      refine z_aload_n (pc := 30) hK 0 dX11_ease_30 rfl (z_getR (pc := 31) hK f_X11_54_10 ht0 dX11_ease_31 (z_getR (pc := 34) hK f_X11_123_2 (zt_10_6 ht0) dX11_ease_34 (z_iload_n (pc := 37) hK 2 dX11_ease_37 rfl (z_iload_n (pc := 38) hK 3 dX11_ease_38 rfl (z_callVi (pc := 39) hK [.int x2, .int x3] (m_X7_isThreat (zC_D hK) (zt_2_0 (zt_10_6 ht0)) qv_3) sv_X7_isThreat q_1162 (zt_2_0 (zt_10_6 ht0)) rfl [] rfl (Nat.le_of_ble_eq_true rfl) ⟨by decide, by decide⟩ dX11_ease_39 (z_if_eq (pc := 42) hK 63 dX11_ease_42 (by decide) (fun c_4 => ?_) (fun c_4 => ?_)))))))
      · rw [if_pos c_4] at hg
        exact z_iinc (pc := 63) hK 3 (lv' := [(3, .int (x3 + 1)), (0, .ref (G.2.2.2 t0)), (1, .int x1), (2, .int x2)]) dX11_ease_63 rfl (zc_n1 _) (by decide) rfl (z_goto (pc := 66) hK 19 dX11_ease_66 (by decide) (zsub (lv' := [(0, .ref (G.2.2.2 t0)), (1, .int x1), (2, .int x2), (3, .int (x3 + 1))]) [1, 2, 3, 0] rfl (ih x1 x2 (x3 + 1) hg)))
      · rw [if_neg c_4] at hg
        obtain ⟨v_5, qv_5, hg⟩ := zbind_some hg
        refine z_aload_n (pc := 45) hK 0 dX11_ease_45 rfl (z_getR (pc := 46) hK f_X11_54_10 ht0 dX11_ease_46 (z_getR (pc := 49) hK f_X11_123_2 (zt_10_6 ht0) dX11_ease_49 (z_iload_n (pc := 52) hK 3 dX11_ease_52 rfl (z_iload_n (pc := 53) hK 2 dX11_ease_53 rfl (z_callVi (pc := 54) hK [.int x3, .int x2] (m_X7_isThreat (zC_D hK) (zt_2_0 (zt_10_6 ht0)) qv_5) sv_X7_isThreat q_1162 (zt_2_0 (zt_10_6 ht0)) rfl [] rfl (Nat.le_of_ble_eq_true rfl) ⟨by decide, by decide⟩ dX11_ease_54 (z_if_eq (pc := 57) hK 63 dX11_ease_57 (by decide) (fun c_6 => ?_) (fun c_6 => ?_)))))))
        · rw [if_pos c_6] at hg
          exact z_iinc (pc := 63) hK 3 (lv' := [(3, .int (x3 + 1)), (0, .ref (G.2.2.2 t0)), (1, .int x1), (2, .int x2)]) dX11_ease_63 rfl (zc_n1 _) (by decide) rfl (z_goto (pc := 66) hK 19 dX11_ease_66 (by decide) (zsub (lv' := [(0, .ref (G.2.2.2 t0)), (1, .int x1), (2, .int x2), (3, .int (x3 + 1))]) [1, 2, 3, 0] rfl (ih x1 x2 (x3 + 1) hg)))
        · rw [if_neg c_6] at hg
          exact z_iinc (pc := 60) hK 1 (lv' := [(1, .int (x1 + 1)), (0, .ref (G.2.2.2 t0)), (2, .int x2), (3, .int x3)]) dX11_ease_60 rfl (zc_n1 _) (by decide) rfl (z_iinc (pc := 63) hK 3 (lv' := [(3, .int (x3 + 1)), (1, .int (x1 + 1)), (0, .ref (G.2.2.2 t0)), (2, .int x2)]) dX11_ease_63 rfl (zc_n1 _) (by decide) rfl (z_goto (pc := 66) hK 19 dX11_ease_66 (by decide) (zsub (lv' := [(0, .ref (G.2.2.2 t0)), (1, .int (x1 + 1)), (2, .int x2), (3, .int (x3 + 1))]) [2, 1, 3, 0] rfl (ih (x1 + 1) x2 (x3 + 1) hg))))
set_option maxRecDepth 100000 in
set_option maxHeartbeats 4000000 in
theorem b_X11_ease_4 {K : zK} {G : zG} (hK : zC K G cX11_ease RX11 4 3 68 (some .int)) {h : zH} {t0 : Nat} (ht0 : zT t0 = (10, 0)) {r : Int32} (hE : zE K G (some (.int r)) h) : ∀ (n : Nat) (x1 : Int32) (x2 : Int32), g_X11_ease_4 h t0 n x1 x2 = some r → zW K G 4 4 [(0, .ref (G.2.2.2 t0)), (1, .int x1), (2, .int x2)] [] h := by
  intro n
  induction n with
  | zero => intro x1 x2 hg; exact nomatch (show none = some r from hg)
  | succ n ih =>
    intro x1 x2 hg
    rw [g_X11_ease_4] at hg
    refine z_iload_n (pc := 4) hK 2 dX11_ease_4 rfl (z_aload_n (pc := 5) hK 0 dX11_ease_5 rfl (z_getR (pc := 6) hK f_X11_19_10 ht0 dX11_ease_6 (z_getI (pc := 9) hK f_X11_216_4 (zt_10_1 ht0) dX11_ease_9 (z_icmp_ge (pc := 12) hK 75 dX11_ease_12 (by decide) (fun c_1 => ?_) (fun c_1 => ?_)))))
    · rw [if_pos c_1] at hg
      exact z_iload_n (pc := 75) hK 1 dX11_ease_75 rfl (z_iretP (pc := 76) hK hE hg dX11_ease_76)
    · rw [if_neg c_1] at hg
      exact z_iload_n (pc := 15) hK 2 dX11_ease_15 rfl (z_iconst (pc := 16) hK dX11_ease_16 zc_i1 (z_iadd (pc := 17) hK dX11_ease_17 (z_istore_n (pc := 18) hK (lv' := [(3, .int (x2 + 1)), (0, .ref (G.2.2.2 t0)), (1, .int x1), (2, .int x2)]) dX11_ease_18 (by decide) rfl (zsub (lv' := [(0, .ref (G.2.2.2 t0)), (1, .int x1), (2, .int x2), (3, .int (x2 + 1))]) [1, 2, 3, 0] rfl (b_X11_ease_19 hK ht0 hE ih zfu x1 x2 (x2 + 1) hg)))))
set_option maxRecDepth 100000 in
set_option maxHeartbeats 4000000 in
theorem b_X11_ease {K : zK} {G : zG} (hK : zC K G cX11_ease RX11 4 3 68 (some .int)) {h : zH} {t0 : Nat} (ht0 : zT t0 = (10, 0)) {r : Int32} (hE : zE K G (some (.int r)) h) (hg : g_X11_ease h t0 = some r) : zW K G 4 0 [(0, .ref (G.2.2.2 t0))] [] h := by
  rw [g_X11_ease] at hg
  exact z_iconst (pc := 0) hK dX11_ease_0 zc_i0 (z_istore_n (pc := 1) hK (lv' := [(1, .int 0), (0, .ref (G.2.2.2 t0))]) dX11_ease_1 (by decide) rfl (z_iconst (pc := 2) hK dX11_ease_2 zc_i0 (z_istore_n (pc := 3) hK (lv' := [(2, .int 0), (1, .int 0), (0, .ref (G.2.2.2 t0))]) dX11_ease_3 (by decide) rfl (zsub (lv' := [(0, .ref (G.2.2.2 t0)), (1, .int 0), (2, .int 0)]) [2, 1, 0] rfl (b_X11_ease_4 hK ht0 hE zfu 0 0 hg)))))
theorem m_X11_ease {l : Launch} {G : zG} (hG : zD G) {h : zH} {t0 : Nat} (ht0 : zT t0 = (10, 0)) {r : Int32} (hg : g_X11_ease h t0 = some r) : zM l G yX11_ease cX11_ease 4 (some .int) 3 68 [.ref (G.2.2.2 t0)] h (some (.int r)) h :=
  zM_of hG pn_X11 (Nat.le_of_ble_eq_true rfl) (fun K _ hK hE => b_X11_ease hK ht0 hE hg)
theorem dX11_gain_0 : decode cX11_gain 0 = .ok (.iload 4, 2) := by decide +kernel
theorem dX11_gain_2 : decode cX11_gain 2 = .ok (.iconst 1, 1) := by decide +kernel
theorem dX11_gain_3 : decode cX11_gain 3 = .ok (.if_icmp .ne 6, 3) := by decide +kernel
theorem dX11_gain_6 : decode cX11_gain 6 = .ok (.iload_n 2, 1) := by decide +kernel
theorem dX11_gain_7 : decode cX11_gain 7 = .ok (.ineg, 1) := by decide +kernel
theorem dX11_gain_8 : decode cX11_gain 8 = .ok (.ireturn, 1) := by decide +kernel
theorem dX11_gain_9 : decode cX11_gain 9 = .ok (.iload_n 3, 1) := by decide +kernel
theorem dX11_gain_10 : decode cX11_gain 10 = .ok (.iconst 1, 1) := by decide +kernel
theorem dX11_gain_11 : decode cX11_gain 11 = .ok (.if_icmp .ne 7, 3) := by decide +kernel
theorem dX11_gain_14 : decode cX11_gain 14 = .ok (.iload_n 1, 1) := by decide +kernel
theorem dX11_gain_15 : decode cX11_gain 15 = .ok (.goto 4, 3) := by decide +kernel
theorem dX11_gain_18 : decode cX11_gain 18 = .ok (.iload_n 0, 1) := by decide +kernel
theorem dX11_gain_19 : decode cX11_gain 19 = .ok (.ireturn, 1) := by decide +kernel
def g_X11_gain (h : zH) (x0 : Int32) (x1 : Int32) (x2 : Int32) (x3 : Int32) (x4 : Int32) : Option Int32 := if x4 = 1 then (some (-x2)) else (if x3 = 1 then (some x1) else (some x0))
set_option maxRecDepth 100000 in
set_option maxHeartbeats 4000000 in
theorem b_X11_gain {K : zK} {G : zG} (hK : zC K G cX11_gain RX11 5 0 0 (some .int)) {h : zH} {x0 : Int32} {x1 : Int32} {x2 : Int32} {x3 : Int32} {x4 : Int32}  {r : Int32} (hE : zE K G (some (.int r)) h) (hg : g_X11_gain h x0 x1 x2 x3 x4 = some r) : zW K G 5 0 [(0, .int x0), (1, .int x1), (2, .int x2), (3, .int x3), (4, .int x4)] [] h := by
  rw [g_X11_gain] at hg
  refine z_iload (pc := 0) hK 4 dX11_gain_0 rfl (z_iconst (pc := 2) hK dX11_gain_2 zc_i1 (z_icmp_ne (pc := 3) hK 9 dX11_gain_3 (by decide) (fun c_1 => ?_) (fun c_1 => ?_)))
  · rw [if_neg c_1] at hg
    refine z_iload_n (pc := 9) hK 3 dX11_gain_9 rfl (z_iconst (pc := 10) hK dX11_gain_10 zc_i1 (z_icmp_ne (pc := 11) hK 18 dX11_gain_11 (by decide) (fun c_2 => ?_) (fun c_2 => ?_)))
    · rw [if_neg c_2] at hg
      exact z_iload_n (pc := 18) hK 0 dX11_gain_18 rfl (z_iretP (pc := 19) hK hE hg dX11_gain_19)
    · rw [if_pos c_2] at hg
      exact z_iload_n (pc := 14) hK 1 dX11_gain_14 rfl (z_goto (pc := 15) hK 19 dX11_gain_15 (by decide) (z_iretP (pc := 19) hK hE hg dX11_gain_19))
  · rw [if_pos c_1] at hg
    exact z_iload_n (pc := 6) hK 2 dX11_gain_6 rfl (z_ineg (pc := 7) hK dX11_gain_7 (z_iretP (pc := 8) hK hE hg dX11_gain_8))
theorem m_X11_gain {l : Launch} {G : zG} (hG : zD G) {h : zH} {x0 : Int32} {x1 : Int32} {x2 : Int32} {x3 : Int32} {x4 : Int32}  {r : Int32} (hg : g_X11_gain h x0 x1 x2 x3 x4 = some r) : zM l G yX11_gain cX11_gain 5 (some .int) 0 0 [.int x0, .int x1, .int x2, .int x3, .int x4] h (some (.int r)) h :=
  zM_of hG pn_X11 (Nat.le_of_ble_eq_true rfl) (fun K _ hK hE => b_X11_gain hK  hE hg)
theorem dX11_isAtRest_0 : decode cX11_isAtRest 0 = .ok (.iload_n 3, 1) := by decide +kernel
theorem dX11_isAtRest_1 : decode cX11_isAtRest 1 = .ok (.iconst 2, 1) := by decide +kernel
theorem dX11_isAtRest_2 : decode cX11_isAtRest 2 = .ok (.idiv, 1) := by decide +kernel
theorem dX11_isAtRest_3 : decode cX11_isAtRest 3 = .ok (.istore 4, 2) := by decide +kernel
theorem dX11_isAtRest_5 : decode cX11_isAtRest 5 = .ok (.iload_n 3, 1) := by decide +kernel
theorem dX11_isAtRest_6 : decode cX11_isAtRest 6 = .ok (.iconst 2, 1) := by decide +kernel
theorem dX11_isAtRest_7 : decode cX11_isAtRest 7 = .ok (.irem, 1) := by decide +kernel
theorem dX11_isAtRest_8 : decode cX11_isAtRest 8 = .ok (.istore 5, 2) := by decide +kernel
theorem dX11_isAtRest_10 : decode cX11_isAtRest 10 = .ok (.iload_n 0, 1) := by decide +kernel
theorem dX11_isAtRest_11 : decode cX11_isAtRest 11 = .ok (.iload_n 1, 1) := by decide +kernel
theorem dX11_isAtRest_12 : decode cX11_isAtRest 12 = .ok (.iload_n 2, 1) := by decide +kernel
theorem dX11_isAtRest_13 : decode cX11_isAtRest 13 = .ok (.iload 4, 2) := by decide +kernel
theorem dX11_isAtRest_15 : decode cX11_isAtRest 15 = .ok (.iload 5, 2) := by decide +kernel
theorem dX11_isAtRest_17 : decode cX11_isAtRest 17 = .ok (.invokestatic 301, 3) := by decide +kernel
theorem dX11_isAtRest_20 : decode cX11_isAtRest 20 = .ok (.iload_n 0, 1) := by decide +kernel
theorem dX11_isAtRest_21 : decode cX11_isAtRest 21 = .ok (.iload_n 1, 1) := by decide +kernel
theorem dX11_isAtRest_22 : decode cX11_isAtRest 22 = .ok (.iload_n 2, 1) := by decide +kernel
theorem dX11_isAtRest_23 : decode cX11_isAtRest 23 = .ok (.iconst 1, 1) := by decide +kernel
theorem dX11_isAtRest_24 : decode cX11_isAtRest 24 = .ok (.iload 4, 2) := by decide +kernel
theorem dX11_isAtRest_26 : decode cX11_isAtRest 26 = .ok (.isub, 1) := by decide +kernel
theorem dX11_isAtRest_27 : decode cX11_isAtRest 27 = .ok (.iload 5, 2) := by decide +kernel
theorem dX11_isAtRest_29 : decode cX11_isAtRest 29 = .ok (.invokestatic 301, 3) := by decide +kernel
theorem dX11_isAtRest_32 : decode cX11_isAtRest 32 = .ok (.if_icmp .lt 32, 3) := by decide +kernel
theorem dX11_isAtRest_35 : decode cX11_isAtRest 35 = .ok (.iload_n 0, 1) := by decide +kernel
theorem dX11_isAtRest_36 : decode cX11_isAtRest 36 = .ok (.iload_n 1, 1) := by decide +kernel
theorem dX11_isAtRest_37 : decode cX11_isAtRest 37 = .ok (.iload_n 2, 1) := by decide +kernel
theorem dX11_isAtRest_38 : decode cX11_isAtRest 38 = .ok (.iload 5, 2) := by decide +kernel
theorem dX11_isAtRest_40 : decode cX11_isAtRest 40 = .ok (.iload 4, 2) := by decide +kernel
theorem dX11_isAtRest_42 : decode cX11_isAtRest 42 = .ok (.invokestatic 301, 3) := by decide +kernel
theorem dX11_isAtRest_45 : decode cX11_isAtRest 45 = .ok (.iload_n 0, 1) := by decide +kernel
theorem dX11_isAtRest_46 : decode cX11_isAtRest 46 = .ok (.iload_n 1, 1) := by decide +kernel
theorem dX11_isAtRest_47 : decode cX11_isAtRest 47 = .ok (.iload_n 2, 1) := by decide +kernel
theorem dX11_isAtRest_48 : decode cX11_isAtRest 48 = .ok (.iconst 1, 1) := by decide +kernel
theorem dX11_isAtRest_49 : decode cX11_isAtRest 49 = .ok (.iload 5, 2) := by decide +kernel
theorem dX11_isAtRest_51 : decode cX11_isAtRest 51 = .ok (.isub, 1) := by decide +kernel
theorem dX11_isAtRest_52 : decode cX11_isAtRest 52 = .ok (.iload 4, 2) := by decide +kernel
theorem dX11_isAtRest_54 : decode cX11_isAtRest 54 = .ok (.invokestatic 301, 3) := by decide +kernel
theorem dX11_isAtRest_57 : decode cX11_isAtRest 57 = .ok (.if_icmp .lt 7, 3) := by decide +kernel
theorem dX11_isAtRest_60 : decode cX11_isAtRest 60 = .ok (.iconst 1, 1) := by decide +kernel
theorem dX11_isAtRest_61 : decode cX11_isAtRest 61 = .ok (.goto 4, 3) := by decide +kernel
theorem dX11_isAtRest_64 : decode cX11_isAtRest 64 = .ok (.iconst 0, 1) := by decide +kernel
theorem dX11_isAtRest_65 : decode cX11_isAtRest 65 = .ok (.ireturn, 1) := by decide +kernel
def g_X11_isAtRest (h : zH) (x0 : Int32) (x1 : Int32) (x2 : Int32) (x3 : Int32) : Option Bool := zlet (x3 - x3 / 2 * 2) fun v_1 => (g_X11_gain h x0 x1 x2 (x3 / 2) v_1).bind fun v_2 => (g_X11_gain h x0 x1 x2 (1 - (x3 / 2)) v_1).bind fun v_3 => if v_2 < v_3 then (some false) else ((g_X11_gain h x0 x1 x2 v_1 (x3 / 2)).bind fun v_5 => (g_X11_gain h x0 x1 x2 (1 - v_1) (x3 / 2)).bind fun v_6 => if v_5 < v_6 then (some false) else (some true))
set_option maxRecDepth 100000 in
set_option maxHeartbeats 4000000 in
theorem b_X11_isAtRest {K : zK} {G : zG} (hK : zC K G cX11_isAtRest RX11 6 1 24 (some .boolean)) {h : zH} {x0 : Int32} {x1 : Int32} {x2 : Int32} {x3 : Int32}  {r : Bool} (hE : zE K G (some (.int (zb r))) h) (hg : g_X11_isAtRest h x0 x1 x2 x3 = some r) : zW K G 6 0 [(0, .int x0), (1, .int x1), (2, .int x2), (3, .int x3)] [] h := by
  rw [g_X11_isAtRest] at hg
  obtain ⟨v_1, ev_1, hg⟩ := zlet_some hg
  obtain ⟨v_2, qv_2, hg⟩ := zbind_some hg
  obtain ⟨v_3, qv_3, hg⟩ := zbind_some hg
  refine z_iload_n (pc := 0) hK 3 dX11_isAtRest_0 rfl (z_iconst (pc := 1) hK dX11_isAtRest_1 zc_i2 (z_idiv (pc := 2) hK dX11_isAtRest_2 (by decide) (z_istore (pc := 3) hK (lv' := [(4, .int (x3 / 2)), (0, .int x0), (1, .int x1), (2, .int x2), (3, .int x3)]) dX11_isAtRest_3 (by decide) rfl (z_iload_n (pc := 5) hK 4 dX11_isAtRest_5 rfl (z_iconst (pc := 6) hK dX11_isAtRest_6 zc_i2 (z_irem (pc := 7) hK dX11_isAtRest_7 (by decide) (z_nameI ev_1 (z_istore (pc := 8) hK (lv' := [(5, .int v_1), (4, .int (x3 / 2)), (0, .int x0), (1, .int x1), (2, .int x2), (3, .int x3)]) dX11_isAtRest_8 (by decide) rfl (z_iload_n (pc := 10) hK 2 dX11_isAtRest_10 rfl (z_iload_n (pc := 11) hK 3 dX11_isAtRest_11 rfl (z_iload_n (pc := 12) hK 4 dX11_isAtRest_12 rfl (z_iload (pc := 13) hK 1 dX11_isAtRest_13 rfl (z_iload (pc := 15) hK 0 dX11_isAtRest_15 rfl (z_callSi (pc := 17) hK [.int x0, .int x1, .int x2, .int (x3 / 2), .int v_1] (m_X11_gain (zC_D hK) qv_2) ss_X11_gain q_1282 rfl [] rfl (Nat.le_of_ble_eq_true rfl) ⟨by decide, by decide⟩ dX11_isAtRest_17 (z_iload_n (pc := 20) hK 2 dX11_isAtRest_20 rfl (z_iload_n (pc := 21) hK 3 dX11_isAtRest_21 rfl (z_iload_n (pc := 22) hK 4 dX11_isAtRest_22 rfl (z_iconst (pc := 23) hK dX11_isAtRest_23 zc_i1 (z_iload (pc := 24) hK 1 dX11_isAtRest_24 rfl (z_isub (pc := 26) hK dX11_isAtRest_26 (z_iload (pc := 27) hK 0 dX11_isAtRest_27 rfl (z_callSi (pc := 29) hK [.int x0, .int x1, .int x2, .int (1 - (x3 / 2)), .int v_1] (m_X11_gain (zC_D hK) qv_3) ss_X11_gain q_1282 rfl [.int v_2] rfl (Nat.le_of_ble_eq_true rfl) ⟨by decide, by decide⟩ dX11_isAtRest_29 (z_icmp_lt (pc := 32) hK 64 dX11_isAtRest_32 (by decide) (fun c_4 => ?_) (fun c_4 => ?_))))))))))))))))))))))))
  · rw [if_pos c_4] at hg
    exact z_iconst (pc := 64) hK dX11_isAtRest_64 zc_i0 (z_zretP (pc := 65) hK rfl hE hg dX11_isAtRest_65)
  · rw [if_neg c_4] at hg
    obtain ⟨v_5, qv_5, hg⟩ := zbind_some hg
    obtain ⟨v_6, qv_6, hg⟩ := zbind_some hg
    refine z_iload_n (pc := 35) hK 2 dX11_isAtRest_35 rfl (z_iload_n (pc := 36) hK 3 dX11_isAtRest_36 rfl (z_iload_n (pc := 37) hK 4 dX11_isAtRest_37 rfl (z_iload (pc := 38) hK 0 dX11_isAtRest_38 rfl (z_iload (pc := 40) hK 1 dX11_isAtRest_40 rfl (z_callSi (pc := 42) hK [.int x0, .int x1, .int x2, .int v_1, .int (x3 / 2)] (m_X11_gain (zC_D hK) qv_5) ss_X11_gain q_1282 rfl [] rfl (Nat.le_of_ble_eq_true rfl) ⟨by decide, by decide⟩ dX11_isAtRest_42 (z_iload_n (pc := 45) hK 2 dX11_isAtRest_45 rfl (z_iload_n (pc := 46) hK 3 dX11_isAtRest_46 rfl (z_iload_n (pc := 47) hK 4 dX11_isAtRest_47 rfl (z_iconst (pc := 48) hK dX11_isAtRest_48 zc_i1 (z_iload (pc := 49) hK 0 dX11_isAtRest_49 rfl (z_isub (pc := 51) hK dX11_isAtRest_51 (z_iload (pc := 52) hK 1 dX11_isAtRest_52 rfl (z_callSi (pc := 54) hK [.int x0, .int x1, .int x2, .int (1 - v_1), .int (x3 / 2)] (m_X11_gain (zC_D hK) qv_6) ss_X11_gain q_1282 rfl [.int v_5] rfl (Nat.le_of_ble_eq_true rfl) ⟨by decide, by decide⟩ dX11_isAtRest_54 (z_icmp_lt (pc := 57) hK 64 dX11_isAtRest_57 (by decide) (fun c_7 => ?_) (fun c_7 => ?_)))))))))))))))
    · rw [if_pos c_7] at hg
      exact z_iconst (pc := 64) hK dX11_isAtRest_64 zc_i0 (z_zretP (pc := 65) hK rfl hE hg dX11_isAtRest_65)
    · rw [if_neg c_7] at hg
      exact z_iconst (pc := 60) hK dX11_isAtRest_60 zc_i1 (z_goto (pc := 61) hK 65 dX11_isAtRest_61 (by decide) (z_zretP (pc := 65) hK rfl hE hg dX11_isAtRest_65))
theorem m_X11_isAtRest {l : Launch} {G : zG} (hG : zD G) {h : zH} {x0 : Int32} {x1 : Int32} {x2 : Int32} {x3 : Int32}  {r : Bool} (hg : g_X11_isAtRest h x0 x1 x2 x3 = some r) : zM l G yX11_isAtRest cX11_isAtRest 6 (some .boolean) 1 24 [.int x0, .int x1, .int x2, .int x3] h (some (.int (zb r))) h :=
  zM_of hG pn_X11 (Nat.le_of_ble_eq_true rfl) (fun K _ hK hE => b_X11_isAtRest hK  hE hg)
theorem dX11_rule_0 : decode cX11_rule 0 = .ok (.iload_n 1, 1) := by decide +kernel
theorem dX11_rule_1 : decode cX11_rule 1 = .ok (.iconst 1, 1) := by decide +kernel
theorem dX11_rule_2 : decode cX11_rule 2 = .ok (.if_icmp .lt 20, 3) := by decide +kernel
theorem dX11_rule_5 : decode cX11_rule 5 = .ok (.iload_n 1, 1) := by decide +kernel
theorem dX11_rule_6 : decode cX11_rule 6 = .ok (.bipush 30, 2) := by decide +kernel
theorem dX11_rule_8 : decode cX11_rule 8 = .ok (.if_icmp .gt 14, 3) := by decide +kernel
theorem dX11_rule_11 : decode cX11_rule 11 = .ok (.iload_n 2, 1) := by decide +kernel
theorem dX11_rule_12 : decode cX11_rule 12 = .ok (.iconst 1, 1) := by decide +kernel
theorem dX11_rule_13 : decode cX11_rule 13 = .ok (.if_icmp .lt 9, 3) := by decide +kernel
theorem dX11_rule_16 : decode cX11_rule 16 = .ok (.iload_n 2, 1) := by decide +kernel
theorem dX11_rule_17 : decode cX11_rule 17 = .ok (.bipush 9, 2) := by decide +kernel
theorem dX11_rule_19 : decode cX11_rule 19 = .ok (.if_icmp .le 5, 3) := by decide +kernel
theorem dX11_rule_22 : decode cX11_rule 22 = .ok (.iconst (-1), 1) := by decide +kernel
theorem dX11_rule_23 : decode cX11_rule 23 = .ok (.ireturn, 1) := by decide +kernel
theorem dX11_rule_24 : decode cX11_rule 24 = .ok (.aload_n 0, 1) := by decide +kernel
theorem dX11_rule_25 : decode cX11_rule 25 = .ok (.getfield 48, 3) := by decide +kernel
theorem dX11_rule_28 : decode cX11_rule 28 = .ok (.aload_n 0, 1) := by decide +kernel
theorem dX11_rule_29 : decode cX11_rule 29 = .ok (.getfield 54, 3) := by decide +kernel
theorem dX11_rule_32 : decode cX11_rule 32 = .ok (.getfield 123, 3) := by decide +kernel
theorem dX11_rule_35 : decode cX11_rule 35 = .ok (.invokevirtual 193, 3) := by decide +kernel
theorem dX11_rule_38 : decode cX11_rule 38 = .ok (.iconst 0, 1) := by decide +kernel
theorem dX11_rule_39 : decode cX11_rule 39 = .ok (.istore_n 3, 1) := by decide +kernel
theorem dX11_rule_40 : decode cX11_rule 40 = .ok (.iconst 0, 1) := by decide +kernel
theorem dX11_rule_41 : decode cX11_rule 41 = .ok (.istore 4, 2) := by decide +kernel
theorem dX11_rule_43 : decode cX11_rule 43 = .ok (.iload 4, 2) := by decide +kernel
theorem dX11_rule_45 : decode cX11_rule 45 = .ok (.iload_n 1, 1) := by decide +kernel
theorem dX11_rule_46 : decode cX11_rule 46 = .ok (.if_icmp .ge 20, 3) := by decide +kernel
theorem dX11_rule_49 : decode cX11_rule 49 = .ok (.iload_n 3, 1) := by decide +kernel
theorem dX11_rule_50 : decode cX11_rule 50 = .ok (.aload_n 0, 1) := by decide +kernel
theorem dX11_rule_51 : decode cX11_rule 51 = .ok (.getfield 48, 3) := by decide +kernel
theorem dX11_rule_54 : decode cX11_rule 54 = .ok (.iload_n 2, 1) := by decide +kernel
theorem dX11_rule_55 : decode cX11_rule 55 = .ok (.invokevirtual 213, 3) := by decide +kernel
theorem dX11_rule_58 : decode cX11_rule 58 = .ok (.iadd, 1) := by decide +kernel
theorem dX11_rule_59 : decode cX11_rule 59 = .ok (.istore_n 3, 1) := by decide +kernel
theorem dX11_rule_60 : decode cX11_rule 60 = .ok (.iinc 4 1, 3) := by decide +kernel
theorem dX11_rule_63 : decode cX11_rule 63 = .ok (.goto (-20), 3) := by decide +kernel
theorem dX11_rule_66 : decode cX11_rule 66 = .ok (.iload_n 3, 1) := by decide +kernel
theorem dX11_rule_67 : decode cX11_rule 67 = .ok (.ireturn, 1) := by decide +kernel
def g_X11_rule_43 (t0 : Nat)  : Nat → Int32 → Int32 → Int32 → Int32 → zH → Option (Int32 × zH)
  | 0, _, _, _, _, _ => none
  | n + 1, x1, x2, x3, x4, h => if x1 ≤ x4 then (some (x3, h)) else ((g_X7_passTaxedDay h (zR t0 5) x2).bind fun v_7 => g_X11_rule_43 t0 n x1 x2 (x3 + v_7.1) (x4 + 1) v_7.2)
def g_X11_rule (h : zH) (t0 : Nat) (x1 : Int32) (x2 : Int32) : Option (Int32 × zH) := if x1 < 1 then (some ((-1), h)) else (if 30 < x1 then (some ((-1), h)) else (if x2 < 1 then (some ((-1), h)) else (if x2 ≤ 9 then ((g_X7_become h (zR t0 5) (zR (zR t0 6) 0)).bind fun v_5 => g_X11_rule_43 t0 zfu x1 x2 0 0 v_5) else (some ((-1), h)))))
set_option maxRecDepth 100000 in
set_option maxHeartbeats 4000000 in
theorem b_X11_rule_43 {K : zK} {G : zG} (hK : zC K G cX11_rule RX11 5 6 135 (some .int)) {t0 : Nat} (ht0 : zT t0 = (10, 0)) {r : Int32 × zH} (hE : zE K G (some (.int r.1)) r.2) : ∀ (n : Nat) (x1 : Int32) (x2 : Int32) (x3 : Int32) (x4 : Int32) (h : zH), g_X11_rule_43 t0 n x1 x2 x3 x4 h = some r → zW K G 5 43 [(0, .ref (G.2.2.2 t0)), (1, .int x1), (2, .int x2), (3, .int x3), (4, .int x4)] [] h := by
  intro n
  induction n with
  | zero => intro x1 x2 x3 x4 h hg; exact nomatch (show none = some r from hg)
  | succ n ih =>
    intro x1 x2 x3 x4 h hg
    rw [g_X11_rule_43] at hg
    refine z_iload (pc := 43) hK 4 dX11_rule_43 rfl (z_iload_n (pc := 45) hK 1 dX11_rule_45 rfl (z_icmp_ge (pc := 46) hK 66 dX11_rule_46 (by decide) (fun c_6 => ?_) (fun c_6 => ?_)))
    · rw [if_pos c_6] at hg
      exact z_iload_n (pc := 66) hK 3 dX11_rule_66 rfl (z_iretE (pc := 67) hK hE hg dX11_rule_67)
    · rw [if_neg c_6] at hg
      obtain ⟨v_7, qv_7, hg⟩ := zbind_some hg
      exact z_iload_n (pc := 49) hK 3 dX11_rule_49 rfl (z_aload_n (pc := 50) hK 0 dX11_rule_50 rfl (z_getR (pc := 51) hK f_X11_48_10 ht0 dX11_rule_51 (z_iload_n (pc := 54) hK 2 dX11_rule_54 rfl (z_callVi (pc := 55) hK [.int x2] (m_X7_passTaxedDay (zC_D hK) (zt_10_5 ht0) qv_7) sv_X7_passTaxedDay q_1098 (zt_10_5 ht0) rfl [.int x3] rfl (Nat.le_of_ble_eq_true rfl) ⟨by decide, by decide⟩ dX11_rule_55 (z_iadd (pc := 58) hK dX11_rule_58 (z_istore_n (pc := 59) hK (lv' := [(3, .int (x3 + v_7.1)), (0, .ref (G.2.2.2 t0)), (1, .int x1), (2, .int x2), (4, .int x4)]) dX11_rule_59 (by decide) rfl (z_iinc (pc := 60) hK 4 (lv' := [(4, .int (x4 + 1)), (3, .int (x3 + v_7.1)), (0, .ref (G.2.2.2 t0)), (1, .int x1), (2, .int x2)]) dX11_rule_60 rfl (zc_n1 _) (by decide) rfl (z_goto (pc := 63) hK 43 dX11_rule_63 (by decide) (zsub (lv' := [(0, .ref (G.2.2.2 t0)), (1, .int x1), (2, .int x2), (3, .int (x3 + v_7.1)), (4, .int (x4 + 1))]) [2, 3, 4, 1, 0] rfl (ih x1 x2 (x3 + v_7.1) (x4 + 1) v_7.2 hg))))))))))
set_option maxRecDepth 100000 in
set_option maxHeartbeats 4000000 in
theorem b_X11_rule {K : zK} {G : zG} (hK : zC K G cX11_rule RX11 5 6 135 (some .int)) {h : zH} {t0 : Nat} {x1 : Int32} {x2 : Int32} (ht0 : zT t0 = (10, 0)) {r : Int32 × zH} (hE : zE K G (some (.int r.1)) r.2) (hg : g_X11_rule h t0 x1 x2 = some r) : zW K G 5 0 [(0, .ref (G.2.2.2 t0)), (1, .int x1), (2, .int x2)] [] h := by
  rw [g_X11_rule] at hg
  refine z_iload_n (pc := 0) hK 1 dX11_rule_0 rfl (z_iconst (pc := 1) hK dX11_rule_1 zc_i1 (z_icmp_lt (pc := 2) hK 22 dX11_rule_2 (by decide) (fun c_1 => ?_) (fun c_1 => ?_)))
  · rw [if_pos c_1] at hg
    exact z_iconst (pc := 22) hK dX11_rule_22 zc_im1 (z_iretE (pc := 23) hK hE hg dX11_rule_23)
  · rw [if_neg c_1] at hg
    refine z_iload_n (pc := 5) hK 1 dX11_rule_5 rfl (z_bipush (pc := 6) hK dX11_rule_6 zc_b30 (z_icmp_gt (pc := 8) hK 22 dX11_rule_8 (by decide) (fun c_2 => ?_) (fun c_2 => ?_)))
    · rw [if_pos c_2] at hg
      exact z_iconst (pc := 22) hK dX11_rule_22 zc_im1 (z_iretE (pc := 23) hK hE hg dX11_rule_23)
    · rw [if_neg c_2] at hg
      refine z_iload_n (pc := 11) hK 2 dX11_rule_11 rfl (z_iconst (pc := 12) hK dX11_rule_12 zc_i1 (z_icmp_lt (pc := 13) hK 22 dX11_rule_13 (by decide) (fun c_3 => ?_) (fun c_3 => ?_)))
      · rw [if_pos c_3] at hg
        exact z_iconst (pc := 22) hK dX11_rule_22 zc_im1 (z_iretE (pc := 23) hK hE hg dX11_rule_23)
      · rw [if_neg c_3] at hg
        refine z_iload_n (pc := 16) hK 2 dX11_rule_16 rfl (z_bipush (pc := 17) hK dX11_rule_17 zc_b9 (z_icmp_le (pc := 19) hK 24 dX11_rule_19 (by decide) (fun c_4 => ?_) (fun c_4 => ?_)))
        · rw [if_pos c_4] at hg
          obtain ⟨v_5, qv_5, hg⟩ := zbind_some hg
          exact z_aload_n (pc := 24) hK 0 dX11_rule_24 rfl (z_getR (pc := 25) hK f_X11_48_10 ht0 dX11_rule_25 (z_aload_n (pc := 28) hK 0 dX11_rule_28 rfl (z_getR (pc := 29) hK f_X11_54_10 ht0 dX11_rule_29 (z_getR (pc := 32) hK f_X11_123_2 (zt_10_6 ht0) dX11_rule_32 (z_callVv (pc := 35) hK [.ref (G.2.2.2 (zR (zR t0 6) 0))] (m_X7_become (zC_D hK) (zt_10_5 ht0) (zt_2_0 (zt_10_6 ht0)) qv_5) sv_X7_become q_1054 (zt_10_5 ht0) rfl [] rfl (Nat.le_of_ble_eq_true rfl) ⟨by decide, by decide⟩ dX11_rule_35 (z_iconst (pc := 38) hK dX11_rule_38 zc_i0 (z_istore_n (pc := 39) hK (lv' := [(3, .int 0), (0, .ref (G.2.2.2 t0)), (1, .int x1), (2, .int x2)]) dX11_rule_39 (by decide) rfl (z_iconst (pc := 40) hK dX11_rule_40 zc_i0 (z_istore (pc := 41) hK (lv' := [(4, .int 0), (3, .int 0), (0, .ref (G.2.2.2 t0)), (1, .int x1), (2, .int x2)]) dX11_rule_41 (by decide) rfl (zsub (lv' := [(0, .ref (G.2.2.2 t0)), (1, .int x1), (2, .int x2), (3, .int 0), (4, .int 0)]) [2, 3, 4, 1, 0] rfl (b_X11_rule_43 hK ht0 hE zfu x1 x2 0 0 v_5 hg)))))))))))
        · rw [if_neg c_4] at hg
          exact z_iconst (pc := 22) hK dX11_rule_22 zc_im1 (z_iretE (pc := 23) hK hE hg dX11_rule_23)
theorem m_X11_rule {l : Launch} {G : zG} (hG : zD G) {h : zH} {t0 : Nat} {x1 : Int32} {x2 : Int32} (ht0 : zT t0 = (10, 0)) {r : Int32 × zH} (hg : g_X11_rule h t0 x1 x2 = some r) : zM l G yX11_rule cX11_rule 5 (some .int) 6 135 [.ref (G.2.2.2 t0), .int x1, .int x2] h (some (.int r.1)) r.2 :=
  zM_of hG pn_X11 (Nat.le_of_ble_eq_true rfl) (fun K _ hK hE => b_X11_rule hK ht0 hE hg)
theorem dX11_drawBelow_0 : decode cX11_drawBelow 0 = .ok (.aload_n 0, 1) := by decide +kernel
theorem dX11_drawBelow_1 : decode cX11_drawBelow 1 = .ok (.aload_n 0, 1) := by decide +kernel
theorem dX11_drawBelow_2 : decode cX11_drawBelow 2 = .ok (.getfield 267, 3) := by decide +kernel
theorem dX11_drawBelow_5 : decode cX11_drawBelow 5 = .ok (.ldc2_w 308, 3) := by decide +kernel
theorem dX11_drawBelow_8 : decode cX11_drawBelow 8 = .ok (.lmul, 1) := by decide +kernel
theorem dX11_drawBelow_9 : decode cX11_drawBelow 9 = .ok (.ldc2_w 310, 3) := by decide +kernel
theorem dX11_drawBelow_12 : decode cX11_drawBelow 12 = .ok (.ladd, 1) := by decide +kernel
theorem dX11_drawBelow_13 : decode cX11_drawBelow 13 = .ok (.ldc2_w 312, 3) := by decide +kernel
theorem dX11_drawBelow_16 : decode cX11_drawBelow 16 = .ok (.lrem, 1) := by decide +kernel
theorem dX11_drawBelow_17 : decode cX11_drawBelow 17 = .ok (.putfield 267, 3) := by decide +kernel
theorem dX11_drawBelow_20 : decode cX11_drawBelow 20 = .ok (.iload_n 1, 1) := by decide +kernel
theorem dX11_drawBelow_21 : decode cX11_drawBelow 21 = .ok (.ifCond .le 18, 3) := by decide +kernel
theorem dX11_drawBelow_24 : decode cX11_drawBelow 24 = .ok (.aload_n 0, 1) := by decide +kernel
theorem dX11_drawBelow_25 : decode cX11_drawBelow 25 = .ok (.getfield 267, 3) := by decide +kernel
theorem dX11_drawBelow_28 : decode cX11_drawBelow 28 = .ok (.ldc2_w 314, 3) := by decide +kernel
theorem dX11_drawBelow_31 : decode cX11_drawBelow 31 = .ok (.ldiv, 1) := by decide +kernel
theorem dX11_drawBelow_32 : decode cX11_drawBelow 32 = .ok (.iload_n 1, 1) := by decide +kernel
theorem dX11_drawBelow_33 : decode cX11_drawBelow 33 = .ok (.i2l, 1) := by decide +kernel
theorem dX11_drawBelow_34 : decode cX11_drawBelow 34 = .ok (.lrem, 1) := by decide +kernel
theorem dX11_drawBelow_35 : decode cX11_drawBelow 35 = .ok (.l2i, 1) := by decide +kernel
theorem dX11_drawBelow_36 : decode cX11_drawBelow 36 = .ok (.goto 4, 3) := by decide +kernel
theorem dX11_drawBelow_39 : decode cX11_drawBelow 39 = .ok (.iconst 0, 1) := by decide +kernel
theorem dX11_drawBelow_40 : decode cX11_drawBelow 40 = .ok (.ireturn, 1) := by decide +kernel
def g_X11_drawBelow (h : zH) (t0 : Nat) (x1 : Int32) : Option (Int32 × zH) := zlet (zpl h t0 9 ((((h.2 t0 9) * 1103515245) + 12345) - (((h.2 t0 9) * 1103515245) + 12345) / 2147483648 * 2147483648)) fun h_1 => if x1 ≤ 0 then (some (0, h_1)) else (zgu (x1.toInt64 != 0) <| some ((((h_1.2 t0 9) / 65536) - ((h_1.2 t0 9) / 65536) / x1.toInt64 * x1.toInt64).toInt32, h_1))
set_option maxRecDepth 100000 in
set_option maxHeartbeats 4000000 in
theorem b_X11_drawBelow {K : zK} {G : zG} (hK : zC K G cX11_drawBelow RX11 2 0 0 (some .int)) {h : zH} {t0 : Nat} {x1 : Int32} (ht0 : zT t0 = (10, 0)) {r : Int32 × zH} (hE : zE K G (some (.int r.1)) r.2) (hg : g_X11_drawBelow h t0 x1 = some r) : zW K G 2 0 [(0, .ref (G.2.2.2 t0)), (1, .int x1)] [] h := by
  rw [g_X11_drawBelow] at hg
  obtain ⟨h_1, eh_1, hg⟩ := zlet_some hg
  refine z_aload_n (pc := 0) hK 0 dX11_drawBelow_0 rfl (z_aload_n (pc := 1) hK 0 dX11_drawBelow_1 rfl (z_getL (pc := 2) hK f_X11_267_10 ht0 dX11_drawBelow_2 (z_ldc2 (pc := 5) hK q_1182 dX11_drawBelow_5 (z_lmul (pc := 8) hK dX11_drawBelow_8 (z_ldc2 (pc := 9) hK q_1183 dX11_drawBelow_9 (z_ladd (pc := 12) hK dX11_drawBelow_12 (z_ldc2 (pc := 13) hK q_1184 dX11_drawBelow_13 (z_lrem (pc := 16) hK dX11_drawBelow_16 (by decide) (z_putL (pc := 17) hK f_X11_267_10 fp_10_9 ht0 dX11_drawBelow_17 (z_nameH eh_1 (z_iload_n (pc := 20) hK 1 dX11_drawBelow_20 rfl (z_if_le (pc := 21) hK 39 dX11_drawBelow_21 (by decide) (fun c_2 => ?_) (fun c_2 => ?_)))))))))))))
  · rw [if_pos c_2] at hg
    exact z_iconst (pc := 39) hK dX11_drawBelow_39 zc_i0 (z_iretE (pc := 40) hK hE hg dX11_drawBelow_40)
  · rw [if_neg c_2] at hg
    obtain ⟨c_3, hg⟩ := zgu_some hg
    exact z_aload_n (pc := 24) hK 0 dX11_drawBelow_24 rfl (z_getL (pc := 25) hK f_X11_267_10 ht0 dX11_drawBelow_25 (z_ldc2 (pc := 28) hK q_1185 dX11_drawBelow_28 (z_ldiv (pc := 31) hK dX11_drawBelow_31 (by decide) (z_iload_n (pc := 32) hK 1 dX11_drawBelow_32 rfl (z_i2l (pc := 33) hK dX11_drawBelow_33 rfl (z_lrem (pc := 34) hK dX11_drawBelow_34 (zne0l c_3) (z_l2i (pc := 35) hK dX11_drawBelow_35 rfl (z_goto (pc := 36) hK 40 dX11_drawBelow_36 (by decide) (z_iretE (pc := 40) hK hE hg dX11_drawBelow_40)))))))))
theorem m_X11_drawBelow {l : Launch} {G : zG} (hG : zD G) {h : zH} {t0 : Nat} {x1 : Int32} (ht0 : zT t0 = (10, 0)) {r : Int32 × zH} (hg : g_X11_drawBelow h t0 x1 = some r) : zM l G yX11_drawBelow cX11_drawBelow 2 (some .int) 0 0 [.ref (G.2.2.2 t0), .int x1] h (some (.int r.1)) r.2 :=
  zM_of hG pn_X11 (Nat.le_of_ble_eq_true rfl) (fun K _ hK hE => b_X11_drawBelow hK ht0 hE hg)
theorem dX11_passDrawnDay_0 : decode cX11_passDrawnDay 0 = .ok (.aload_n 0, 1) := by decide +kernel
theorem dX11_passDrawnDay_1 : decode cX11_passDrawnDay 1 = .ok (.getfield 19, 3) := by decide +kernel
theorem dX11_passDrawnDay_4 : decode cX11_passDrawnDay 4 = .ok (.getfield 216, 3) := by decide +kernel
theorem dX11_passDrawnDay_7 : decode cX11_passDrawnDay 7 = .ok (.ifCond .le 104, 3) := by decide +kernel
theorem dX11_passDrawnDay_10 : decode cX11_passDrawnDay 10 = .ok (.aload_n 0, 1) := by decide +kernel
theorem dX11_passDrawnDay_11 : decode cX11_passDrawnDay 11 = .ok (.aload_n 0, 1) := by decide +kernel
theorem dX11_passDrawnDay_12 : decode cX11_passDrawnDay 12 = .ok (.getfield 19, 3) := by decide +kernel
theorem dX11_passDrawnDay_15 : decode cX11_passDrawnDay 15 = .ok (.getfield 216, 3) := by decide +kernel
theorem dX11_passDrawnDay_18 : decode cX11_passDrawnDay 18 = .ok (.invokevirtual 305, 3) := by decide +kernel
theorem dX11_passDrawnDay_21 : decode cX11_passDrawnDay 21 = .ok (.istore_n 1, 1) := by decide +kernel
theorem dX11_passDrawnDay_22 : decode cX11_passDrawnDay 22 = .ok (.aload_n 0, 1) := by decide +kernel
theorem dX11_passDrawnDay_23 : decode cX11_passDrawnDay 23 = .ok (.aload_n 0, 1) := by decide +kernel
theorem dX11_passDrawnDay_24 : decode cX11_passDrawnDay 24 = .ok (.getfield 19, 3) := by decide +kernel
theorem dX11_passDrawnDay_27 : decode cX11_passDrawnDay 27 = .ok (.getfield 216, 3) := by decide +kernel
theorem dX11_passDrawnDay_30 : decode cX11_passDrawnDay 30 = .ok (.invokevirtual 305, 3) := by decide +kernel
theorem dX11_passDrawnDay_33 : decode cX11_passDrawnDay 33 = .ok (.istore_n 2, 1) := by decide +kernel
theorem dX11_passDrawnDay_34 : decode cX11_passDrawnDay 34 = .ok (.aload_n 0, 1) := by decide +kernel
theorem dX11_passDrawnDay_35 : decode cX11_passDrawnDay 35 = .ok (.getfield 48, 3) := by decide +kernel
theorem dX11_passDrawnDay_38 : decode cX11_passDrawnDay 38 = .ok (.iload_n 1, 1) := by decide +kernel
theorem dX11_passDrawnDay_39 : decode cX11_passDrawnDay 39 = .ok (.iload_n 2, 1) := by decide +kernel
theorem dX11_passDrawnDay_40 : decode cX11_passDrawnDay 40 = .ok (.invokevirtual 166, 3) := by decide +kernel
theorem dX11_passDrawnDay_43 : decode cX11_passDrawnDay 43 = .ok (.ifCond .eq 13, 3) := by decide +kernel
theorem dX11_passDrawnDay_46 : decode cX11_passDrawnDay 46 = .ok (.aload_n 0, 1) := by decide +kernel
theorem dX11_passDrawnDay_47 : decode cX11_passDrawnDay 47 = .ok (.getfield 48, 3) := by decide +kernel
theorem dX11_passDrawnDay_50 : decode cX11_passDrawnDay 50 = .ok (.iload_n 1, 1) := by decide +kernel
theorem dX11_passDrawnDay_51 : decode cX11_passDrawnDay 51 = .ok (.iload_n 2, 1) := by decide +kernel
theorem dX11_passDrawnDay_52 : decode cX11_passDrawnDay 52 = .ok (.invokevirtual 169, 3) := by decide +kernel
theorem dX11_passDrawnDay_55 : decode cX11_passDrawnDay 55 = .ok (.pop, 1) := by decide +kernel
theorem dX11_passDrawnDay_56 : decode cX11_passDrawnDay 56 = .ok (.aload_n 0, 1) := by decide +kernel
theorem dX11_passDrawnDay_57 : decode cX11_passDrawnDay 57 = .ok (.iconst 2, 1) := by decide +kernel
theorem dX11_passDrawnDay_58 : decode cX11_passDrawnDay 58 = .ok (.invokevirtual 305, 3) := by decide +kernel
theorem dX11_passDrawnDay_61 : decode cX11_passDrawnDay 61 = .ok (.ifCond .ne 21, 3) := by decide +kernel
theorem dX11_passDrawnDay_64 : decode cX11_passDrawnDay 64 = .ok (.aload_n 0, 1) := by decide +kernel
theorem dX11_passDrawnDay_65 : decode cX11_passDrawnDay 65 = .ok (.getfield 48, 3) := by decide +kernel
theorem dX11_passDrawnDay_68 : decode cX11_passDrawnDay 68 = .ok (.invokevirtual 155, 3) := by decide +kernel
theorem dX11_passDrawnDay_71 : decode cX11_passDrawnDay 71 = .ok (.ifCond .eq 11, 3) := by decide +kernel
theorem dX11_passDrawnDay_74 : decode cX11_passDrawnDay 74 = .ok (.aload_n 0, 1) := by decide +kernel
theorem dX11_passDrawnDay_75 : decode cX11_passDrawnDay 75 = .ok (.getfield 48, 3) := by decide +kernel
theorem dX11_passDrawnDay_78 : decode cX11_passDrawnDay 78 = .ok (.invokevirtual 163, 3) := by decide +kernel
theorem dX11_passDrawnDay_81 : decode cX11_passDrawnDay 81 = .ok (.pop, 1) := by decide +kernel
theorem dX11_passDrawnDay_82 : decode cX11_passDrawnDay 82 = .ok (.aload_n 0, 1) := by decide +kernel
theorem dX11_passDrawnDay_83 : decode cX11_passDrawnDay 83 = .ok (.bipush 20, 2) := by decide +kernel
theorem dX11_passDrawnDay_85 : decode cX11_passDrawnDay 85 = .ok (.invokevirtual 305, 3) := by decide +kernel
theorem dX11_passDrawnDay_88 : decode cX11_passDrawnDay 88 = .ok (.ifCond .ne 23, 3) := by decide +kernel
theorem dX11_passDrawnDay_91 : decode cX11_passDrawnDay 91 = .ok (.aload_n 0, 1) := by decide +kernel
theorem dX11_passDrawnDay_92 : decode cX11_passDrawnDay 92 = .ok (.getfield 48, 3) := by decide +kernel
theorem dX11_passDrawnDay_95 : decode cX11_passDrawnDay 95 = .ok (.iload_n 1, 1) := by decide +kernel
theorem dX11_passDrawnDay_96 : decode cX11_passDrawnDay 96 = .ok (.invokevirtual 139, 3) := by decide +kernel
theorem dX11_passDrawnDay_99 : decode cX11_passDrawnDay 99 = .ok (.ifCond .eq 12, 3) := by decide +kernel
theorem dX11_passDrawnDay_102 : decode cX11_passDrawnDay 102 = .ok (.aload_n 0, 1) := by decide +kernel
theorem dX11_passDrawnDay_103 : decode cX11_passDrawnDay 103 = .ok (.getfield 48, 3) := by decide +kernel
theorem dX11_passDrawnDay_106 : decode cX11_passDrawnDay 106 = .ok (.iload_n 1, 1) := by decide +kernel
theorem dX11_passDrawnDay_107 : decode cX11_passDrawnDay 107 = .ok (.invokevirtual 180, 3) := by decide +kernel
theorem dX11_passDrawnDay_110 : decode cX11_passDrawnDay 110 = .ok (.pop, 1) := by decide +kernel
theorem dX11_passDrawnDay_111 : decode cX11_passDrawnDay 111 = .ok (.aload_n 0, 1) := by decide +kernel
theorem dX11_passDrawnDay_112 : decode cX11_passDrawnDay 112 = .ok (.getfield 48, 3) := by decide +kernel
theorem dX11_passDrawnDay_115 : decode cX11_passDrawnDay 115 = .ok (.aload_n 0, 1) := by decide +kernel
theorem dX11_passDrawnDay_116 : decode cX11_passDrawnDay 116 = .ok (.getfield 19, 3) := by decide +kernel
theorem dX11_passDrawnDay_119 : decode cX11_passDrawnDay 119 = .ok (.getfield 183, 3) := by decide +kernel
theorem dX11_passDrawnDay_122 : decode cX11_passDrawnDay 122 = .ok (.invokevirtual 186, 3) := by decide +kernel
theorem dX11_passDrawnDay_125 : decode cX11_passDrawnDay 125 = .ok (.ireturn, 1) := by decide +kernel
def g_X11_passDrawnDay_111 (t0 : Nat)  (h : zH) : Option (Int32 × zH) := (g_X7_passDay h (zR t0 5) (h.1 (zR t0 1) 8)).bind fun v_7 => some (v_7.1, v_7.2)
def g_X11_passDrawnDay_82 (t0 : Nat)  (x1 : Int32) (h : zH) : Option (Int32 × zH) := (g_X11_drawBelow h t0 20).bind fun v_13 => if v_13.1 = 0 then ((g_X7_isAlive v_13.2 (zR t0 5) x1).bind fun v_15 => if (zb v_15) = 0 then (g_X11_passDrawnDay_111 t0 v_13.2) else ((g_X7_bury v_13.2 (zR t0 5) x1).bind fun v_17 => g_X11_passDrawnDay_111 t0 v_17.2)) else (g_X11_passDrawnDay_111 t0 v_13.2)
def g_X11_passDrawnDay_56 (t0 : Nat)  (x1 : Int32) (h : zH) : Option (Int32 × zH) := (g_X11_drawBelow h t0 2).bind fun v_8 => if v_8.1 = 0 then ((g_X7_canLevy v_8.2 (zR t0 5)).bind fun v_10 => if (zb v_10) = 0 then (g_X11_passDrawnDay_82 t0 x1 v_8.2) else ((g_X7_levy v_8.2 (zR t0 5)).bind fun v_12 => g_X11_passDrawnDay_82 t0 x1 v_12.2)) else (g_X11_passDrawnDay_82 t0 x1 v_8.2)
def g_X11_passDrawnDay (h : zH) (t0 : Nat) : Option (Int32 × zH) := if (h.1 (zR t0 1) 7) ≤ 0 then (g_X11_passDrawnDay_111 t0 h) else ((g_X11_drawBelow h t0 (h.1 (zR t0 1) 7)).bind fun v_2 => (g_X11_drawBelow v_2.2 t0 (v_2.2.1 (zR t0 1) 7)).bind fun v_3 => (g_X7_areTwoAlive v_3.2 (zR t0 5) v_2.1 v_3.1).bind fun v_4 => if (zb v_4) = 0 then (g_X11_passDrawnDay_56 t0 v_2.1 v_3.2) else ((g_X7_give v_3.2 (zR t0 5) v_2.1 v_3.1).bind fun v_6 => g_X11_passDrawnDay_56 t0 v_2.1 v_6.2))
set_option maxRecDepth 100000 in
set_option maxHeartbeats 4000000 in
theorem b_X11_passDrawnDay_111 {K : zK} {G : zG} (hK : zC K G cX11_passDrawnDay RX11 3 5 114 (some .int)) {t0 : Nat} (ht0 : zT t0 = (10, 0)) {r : Int32 × zH} (hE : zE K G (some (.int r.1)) r.2) (h : zH) (hg : g_X11_passDrawnDay_111 t0 h = some r) : zW K G 3 111 [(0, .ref (G.2.2.2 t0))] [] h := by
  rw [g_X11_passDrawnDay_111] at hg
  obtain ⟨v_7, qv_7, hg⟩ := zbind_some hg
  exact z_aload_n (pc := 111) hK 0 dX11_passDrawnDay_111 rfl (z_getR (pc := 112) hK f_X11_48_10 ht0 dX11_passDrawnDay_112 (z_aload_n (pc := 115) hK 0 dX11_passDrawnDay_115 rfl (z_getR (pc := 116) hK f_X11_19_10 ht0 dX11_passDrawnDay_116 (z_getI (pc := 119) hK f_X11_183_4 (zt_10_1 ht0) dX11_passDrawnDay_119 (z_callVi (pc := 122) hK [.int (h.1 (zR t0 1) 8)] (m_X7_passDay (zC_D hK) (zt_10_5 ht0) qv_7) sv_X7_passDay q_1020 (zt_10_5 ht0) rfl [] rfl (Nat.le_of_ble_eq_true rfl) ⟨by decide, by decide⟩ dX11_passDrawnDay_122 (z_iretE (pc := 125) hK hE hg dX11_passDrawnDay_125))))))
set_option maxRecDepth 100000 in
set_option maxHeartbeats 4000000 in
theorem b_X11_passDrawnDay_82 {K : zK} {G : zG} (hK : zC K G cX11_passDrawnDay RX11 3 5 114 (some .int)) {t0 : Nat} (ht0 : zT t0 = (10, 0)) {r : Int32 × zH} (hE : zE K G (some (.int r.1)) r.2) (x1 : Int32) (h : zH) (hg : g_X11_passDrawnDay_82 t0 x1 h = some r) : zW K G 3 82 [(0, .ref (G.2.2.2 t0)), (1, .int x1)] [] h := by
  rw [g_X11_passDrawnDay_82] at hg
  obtain ⟨v_13, qv_13, hg⟩ := zbind_some hg
  refine z_aload_n (pc := 82) hK 0 dX11_passDrawnDay_82 rfl (z_bipush (pc := 83) hK dX11_passDrawnDay_83 zc_b20 (z_callVi (pc := 85) hK [.int 20] (m_X11_drawBelow (zC_D hK) ht0 qv_13) sv_X11_drawBelow q_1178 ht0 rfl [] rfl (Nat.le_of_ble_eq_true rfl) ⟨by decide, by decide⟩ dX11_passDrawnDay_85 (z_if_ne (pc := 88) hK 111 dX11_passDrawnDay_88 (by decide) (fun c_14 => ?_) (fun c_14 => ?_))))
  · rw [if_neg c_14] at hg
    exact zsub (lv' := [(0, .ref (G.2.2.2 t0))]) [0] rfl (b_X11_passDrawnDay_111 hK ht0 hE v_13.2 hg)
  · rw [if_pos c_14] at hg
    obtain ⟨v_15, qv_15, hg⟩ := zbind_some hg
    refine z_aload_n (pc := 91) hK 0 dX11_passDrawnDay_91 rfl (z_getR (pc := 92) hK f_X11_48_10 ht0 dX11_passDrawnDay_92 (z_iload_n (pc := 95) hK 1 dX11_passDrawnDay_95 rfl (z_callVi (pc := 96) hK [.int x1] (m_X7_isAlive (zC_D hK) (zt_10_5 ht0) qv_15) sv_X7_isAlive q_891 (zt_10_5 ht0) rfl [] rfl (Nat.le_of_ble_eq_true rfl) ⟨by decide, by decide⟩ dX11_passDrawnDay_96 (z_if_eq (pc := 99) hK 111 dX11_passDrawnDay_99 (by decide) (fun c_16 => ?_) (fun c_16 => ?_)))))
    · rw [if_pos c_16] at hg
      exact zsub (lv' := [(0, .ref (G.2.2.2 t0))]) [0] rfl (b_X11_passDrawnDay_111 hK ht0 hE v_13.2 hg)
    · rw [if_neg c_16] at hg
      obtain ⟨v_17, qv_17, hg⟩ := zbind_some hg
      exact z_aload_n (pc := 102) hK 0 dX11_passDrawnDay_102 rfl (z_getR (pc := 103) hK f_X11_48_10 ht0 dX11_passDrawnDay_103 (z_iload_n (pc := 106) hK 1 dX11_passDrawnDay_106 rfl (z_callVi (pc := 107) hK [.int x1] (m_X7_bury (zC_D hK) (zt_10_5 ht0) qv_17) sv_X7_bury q_1012 (zt_10_5 ht0) rfl [] rfl (Nat.le_of_ble_eq_true rfl) ⟨by decide, by decide⟩ dX11_passDrawnDay_107 (z_pop (pc := 110) hK dX11_passDrawnDay_110 rfl (zsub (lv' := [(0, .ref (G.2.2.2 t0))]) [0] rfl (b_X11_passDrawnDay_111 hK ht0 hE v_17.2 hg))))))
set_option maxRecDepth 100000 in
set_option maxHeartbeats 4000000 in
theorem b_X11_passDrawnDay_56 {K : zK} {G : zG} (hK : zC K G cX11_passDrawnDay RX11 3 5 114 (some .int)) {t0 : Nat} (ht0 : zT t0 = (10, 0)) {r : Int32 × zH} (hE : zE K G (some (.int r.1)) r.2) (x1 : Int32) (h : zH) (hg : g_X11_passDrawnDay_56 t0 x1 h = some r) : zW K G 3 56 [(0, .ref (G.2.2.2 t0)), (1, .int x1)] [] h := by
  rw [g_X11_passDrawnDay_56] at hg
  obtain ⟨v_8, qv_8, hg⟩ := zbind_some hg
  refine z_aload_n (pc := 56) hK 0 dX11_passDrawnDay_56 rfl (z_iconst (pc := 57) hK dX11_passDrawnDay_57 zc_i2 (z_callVi (pc := 58) hK [.int 2] (m_X11_drawBelow (zC_D hK) ht0 qv_8) sv_X11_drawBelow q_1178 ht0 rfl [] rfl (Nat.le_of_ble_eq_true rfl) ⟨by decide, by decide⟩ dX11_passDrawnDay_58 (z_if_ne (pc := 61) hK 82 dX11_passDrawnDay_61 (by decide) (fun c_9 => ?_) (fun c_9 => ?_))))
  · rw [if_neg c_9] at hg
    exact zsub (lv' := [(0, .ref (G.2.2.2 t0)), (1, .int x1)]) [0, 1] rfl (b_X11_passDrawnDay_82 hK ht0 hE x1 v_8.2 hg)
  · rw [if_pos c_9] at hg
    obtain ⟨v_10, qv_10, hg⟩ := zbind_some hg
    refine z_aload_n (pc := 64) hK 0 dX11_passDrawnDay_64 rfl (z_getR (pc := 65) hK f_X11_48_10 ht0 dX11_passDrawnDay_65 (z_callVi (pc := 68) hK [] (m_X7_canLevy (zC_D hK) (zt_10_5 ht0) qv_10) sv_X7_canLevy q_926 (zt_10_5 ht0) rfl [] rfl (Nat.le_of_ble_eq_true rfl) ⟨by decide, by decide⟩ dX11_passDrawnDay_68 (z_if_eq (pc := 71) hK 82 dX11_passDrawnDay_71 (by decide) (fun c_11 => ?_) (fun c_11 => ?_))))
    · rw [if_pos c_11] at hg
      exact zsub (lv' := [(0, .ref (G.2.2.2 t0)), (1, .int x1)]) [0, 1] rfl (b_X11_passDrawnDay_82 hK ht0 hE x1 v_8.2 hg)
    · rw [if_neg c_11] at hg
      obtain ⟨v_12, qv_12, hg⟩ := zbind_some hg
      exact z_aload_n (pc := 74) hK 0 dX11_passDrawnDay_74 rfl (z_getR (pc := 75) hK f_X11_48_10 ht0 dX11_passDrawnDay_75 (z_callVi (pc := 78) hK [] (m_X7_levy (zC_D hK) (zt_10_5 ht0) qv_12) sv_X7_levy q_941 (zt_10_5 ht0) rfl [] rfl (Nat.le_of_ble_eq_true rfl) ⟨by decide, by decide⟩ dX11_passDrawnDay_78 (z_pop (pc := 81) hK dX11_passDrawnDay_81 rfl (zsub (lv' := [(0, .ref (G.2.2.2 t0)), (1, .int x1)]) [0, 1] rfl (b_X11_passDrawnDay_82 hK ht0 hE x1 v_12.2 hg)))))
set_option maxRecDepth 100000 in
set_option maxHeartbeats 4000000 in
theorem b_X11_passDrawnDay {K : zK} {G : zG} (hK : zC K G cX11_passDrawnDay RX11 3 5 114 (some .int)) {h : zH} {t0 : Nat} (ht0 : zT t0 = (10, 0)) {r : Int32 × zH} (hE : zE K G (some (.int r.1)) r.2) (hg : g_X11_passDrawnDay h t0 = some r) : zW K G 3 0 [(0, .ref (G.2.2.2 t0))] [] h := by
  rw [g_X11_passDrawnDay] at hg
  refine z_aload_n (pc := 0) hK 0 dX11_passDrawnDay_0 rfl (z_getR (pc := 1) hK f_X11_19_10 ht0 dX11_passDrawnDay_1 (z_getI (pc := 4) hK f_X11_216_4 (zt_10_1 ht0) dX11_passDrawnDay_4 (z_if_le (pc := 7) hK 111 dX11_passDrawnDay_7 (by decide) (fun c_1 => ?_) (fun c_1 => ?_))))
  · rw [if_pos c_1] at hg
    exact zsub (lv' := [(0, .ref (G.2.2.2 t0))]) [0] rfl (b_X11_passDrawnDay_111 hK ht0 hE h hg)
  · rw [if_neg c_1] at hg
    obtain ⟨v_2, qv_2, hg⟩ := zbind_some hg
    obtain ⟨v_3, qv_3, hg⟩ := zbind_some hg
    obtain ⟨v_4, qv_4, hg⟩ := zbind_some hg
    refine z_aload_n (pc := 10) hK 0 dX11_passDrawnDay_10 rfl (z_aload_n (pc := 11) hK 0 dX11_passDrawnDay_11 rfl (z_getR (pc := 12) hK f_X11_19_10 ht0 dX11_passDrawnDay_12 (z_getI (pc := 15) hK f_X11_216_4 (zt_10_1 ht0) dX11_passDrawnDay_15 (z_callVi (pc := 18) hK [.int (h.1 (zR t0 1) 7)] (m_X11_drawBelow (zC_D hK) ht0 qv_2) sv_X11_drawBelow q_1178 ht0 rfl [] rfl (Nat.le_of_ble_eq_true rfl) ⟨by decide, by decide⟩ dX11_passDrawnDay_18 (z_istore_n (pc := 21) hK (lv' := [(1, .int v_2.1), (0, .ref (G.2.2.2 t0))]) dX11_passDrawnDay_21 (by decide) rfl (z_aload_n (pc := 22) hK 1 dX11_passDrawnDay_22 rfl (z_aload_n (pc := 23) hK 1 dX11_passDrawnDay_23 rfl (z_getR (pc := 24) hK f_X11_19_10 ht0 dX11_passDrawnDay_24 (z_getI (pc := 27) hK f_X11_216_4 (zt_10_1 ht0) dX11_passDrawnDay_27 (z_callVi (pc := 30) hK [.int (v_2.2.1 (zR t0 1) 7)] (m_X11_drawBelow (zC_D hK) ht0 qv_3) sv_X11_drawBelow q_1178 ht0 rfl [] rfl (Nat.le_of_ble_eq_true rfl) ⟨by decide, by decide⟩ dX11_passDrawnDay_30 (z_istore_n (pc := 33) hK (lv' := [(2, .int v_3.1), (1, .int v_2.1), (0, .ref (G.2.2.2 t0))]) dX11_passDrawnDay_33 (by decide) rfl (z_aload_n (pc := 34) hK 2 dX11_passDrawnDay_34 rfl (z_getR (pc := 35) hK f_X11_48_10 ht0 dX11_passDrawnDay_35 (z_iload_n (pc := 38) hK 1 dX11_passDrawnDay_38 rfl (z_iload_n (pc := 39) hK 0 dX11_passDrawnDay_39 rfl (z_callVi (pc := 40) hK [.int v_2.1, .int v_3.1] (m_X7_areTwoAlive (zC_D hK) (zt_10_5 ht0) qv_4) sv_X7_areTwoAlive q_983 (zt_10_5 ht0) rfl [] rfl (Nat.le_of_ble_eq_true rfl) ⟨by decide, by decide⟩ dX11_passDrawnDay_40 (z_if_eq (pc := 43) hK 56 dX11_passDrawnDay_43 (by decide) (fun c_5 => ?_) (fun c_5 => ?_))))))))))))))))))
    · rw [if_pos c_5] at hg
      exact zsub (lv' := [(0, .ref (G.2.2.2 t0)), (1, .int v_2.1)]) [2, 1] rfl (b_X11_passDrawnDay_56 hK ht0 hE v_2.1 v_3.2 hg)
    · rw [if_neg c_5] at hg
      obtain ⟨v_6, qv_6, hg⟩ := zbind_some hg
      exact z_aload_n (pc := 46) hK 2 dX11_passDrawnDay_46 rfl (z_getR (pc := 47) hK f_X11_48_10 ht0 dX11_passDrawnDay_47 (z_iload_n (pc := 50) hK 1 dX11_passDrawnDay_50 rfl (z_iload_n (pc := 51) hK 0 dX11_passDrawnDay_51 rfl (z_callVi (pc := 52) hK [.int v_2.1, .int v_3.1] (m_X7_give (zC_D hK) (zt_10_5 ht0) qv_6) sv_X7_give q_987 (zt_10_5 ht0) rfl [] rfl (Nat.le_of_ble_eq_true rfl) ⟨by decide, by decide⟩ dX11_passDrawnDay_52 (z_pop (pc := 55) hK dX11_passDrawnDay_55 rfl (zsub (lv' := [(0, .ref (G.2.2.2 t0)), (1, .int v_2.1)]) [2, 1] rfl (b_X11_passDrawnDay_56 hK ht0 hE v_2.1 v_6.2 hg)))))))
theorem m_X11_passDrawnDay {l : Launch} {G : zG} (hG : zD G) {h : zH} {t0 : Nat} (ht0 : zT t0 = (10, 0)) {r : Int32 × zH} (hg : g_X11_passDrawnDay h t0 = some r) : zM l G yX11_passDrawnDay cX11_passDrawnDay 3 (some .int) 5 114 [.ref (G.2.2.2 t0)] h (some (.int r.1)) r.2 :=
  zM_of hG pn_X11 (Nat.le_of_ble_eq_true rfl) (fun K _ hK hE => b_X11_passDrawnDay hK ht0 hE hg)
theorem dX11_ages_0 : decode cX11_ages 0 = .ok (.iload_n 1, 1) := by decide +kernel
theorem dX11_ages_1 : decode cX11_ages 1 = .ok (.ifCond .lt 30, 3) := by decide +kernel
theorem dX11_ages_4 : decode cX11_ages 4 = .ok (.iload_n 1, 1) := by decide +kernel
theorem dX11_ages_5 : decode cX11_ages 5 = .ok (.sipush 9999, 3) := by decide +kernel
theorem dX11_ages_8 : decode cX11_ages 8 = .ok (.if_icmp .gt 23, 3) := by decide +kernel
theorem dX11_ages_11 : decode cX11_ages 11 = .ok (.iload_n 2, 1) := by decide +kernel
theorem dX11_ages_12 : decode cX11_ages 12 = .ok (.iconst 1, 1) := by decide +kernel
theorem dX11_ages_13 : decode cX11_ages 13 = .ok (.if_icmp .lt 18, 3) := by decide +kernel
theorem dX11_ages_16 : decode cX11_ages 16 = .ok (.iload_n 2, 1) := by decide +kernel
theorem dX11_ages_17 : decode cX11_ages 17 = .ok (.bipush 99, 2) := by decide +kernel
theorem dX11_ages_19 : decode cX11_ages 19 = .ok (.if_icmp .gt 12, 3) := by decide +kernel
theorem dX11_ages_22 : decode cX11_ages 22 = .ok (.iload_n 3, 1) := by decide +kernel
theorem dX11_ages_23 : decode cX11_ages 23 = .ok (.ifCond .lt 8, 3) := by decide +kernel
theorem dX11_ages_26 : decode cX11_ages 26 = .ok (.iload_n 3, 1) := by decide +kernel
theorem dX11_ages_27 : decode cX11_ages 27 = .ok (.iconst 2, 1) := by decide +kernel
theorem dX11_ages_28 : decode cX11_ages 28 = .ok (.if_icmp .le 5, 3) := by decide +kernel
theorem dX11_ages_31 : decode cX11_ages 31 = .ok (.iconst (-1), 1) := by decide +kernel
theorem dX11_ages_32 : decode cX11_ages 32 = .ok (.ireturn, 1) := by decide +kernel
theorem dX11_ages_33 : decode cX11_ages 33 = .ok (.aload_n 0, 1) := by decide +kernel
theorem dX11_ages_34 : decode cX11_ages 34 = .ok (.getfield 48, 3) := by decide +kernel
theorem dX11_ages_37 : decode cX11_ages 37 = .ok (.aload_n 0, 1) := by decide +kernel
theorem dX11_ages_38 : decode cX11_ages 38 = .ok (.getfield 54, 3) := by decide +kernel
theorem dX11_ages_41 : decode cX11_ages 41 = .ok (.getfield 123, 3) := by decide +kernel
theorem dX11_ages_44 : decode cX11_ages 44 = .ok (.invokevirtual 193, 3) := by decide +kernel
theorem dX11_ages_47 : decode cX11_ages 47 = .ok (.aload_n 0, 1) := by decide +kernel
theorem dX11_ages_48 : decode cX11_ages 48 = .ok (.iload_n 1, 1) := by decide +kernel
theorem dX11_ages_49 : decode cX11_ages 49 = .ok (.i2l, 1) := by decide +kernel
theorem dX11_ages_50 : decode cX11_ages 50 = .ok (.putfield 267, 3) := by decide +kernel
theorem dX11_ages_53 : decode cX11_ages 53 = .ok (.iconst 0, 1) := by decide +kernel
theorem dX11_ages_54 : decode cX11_ages 54 = .ok (.istore 4, 2) := by decide +kernel
theorem dX11_ages_56 : decode cX11_ages 56 = .ok (.iconst 0, 1) := by decide +kernel
theorem dX11_ages_57 : decode cX11_ages 57 = .ok (.istore 5, 2) := by decide +kernel
theorem dX11_ages_59 : decode cX11_ages 59 = .ok (.iconst 0, 1) := by decide +kernel
theorem dX11_ages_60 : decode cX11_ages 60 = .ok (.istore 6, 2) := by decide +kernel
theorem dX11_ages_62 : decode cX11_ages 62 = .ok (.iload 6, 2) := by decide +kernel
theorem dX11_ages_64 : decode cX11_ages 64 = .ok (.iload_n 2, 1) := by decide +kernel
theorem dX11_ages_65 : decode cX11_ages 65 = .ok (.if_icmp .ge 42, 3) := by decide +kernel
theorem dX11_ages_68 : decode cX11_ages 68 = .ok (.aload_n 0, 1) := by decide +kernel
theorem dX11_ages_69 : decode cX11_ages 69 = .ok (.getfield 48, 3) := by decide +kernel
theorem dX11_ages_72 : decode cX11_ages 72 = .ok (.invokevirtual 152, 3) := by decide +kernel
theorem dX11_ages_75 : decode cX11_ages 75 = .ok (.istore 7, 2) := by decide +kernel
theorem dX11_ages_77 : decode cX11_ages 77 = .ok (.iload 4, 2) := by decide +kernel
theorem dX11_ages_79 : decode cX11_ages 79 = .ok (.aload_n 0, 1) := by decide +kernel
theorem dX11_ages_80 : decode cX11_ages 80 = .ok (.invokevirtual 271, 3) := by decide +kernel
theorem dX11_ages_83 : decode cX11_ages 83 = .ok (.iadd, 1) := by decide +kernel
theorem dX11_ages_84 : decode cX11_ages 84 = .ok (.istore 4, 2) := by decide +kernel
theorem dX11_ages_86 : decode cX11_ages 86 = .ok (.aload_n 0, 1) := by decide +kernel
theorem dX11_ages_87 : decode cX11_ages 87 = .ok (.getfield 48, 3) := by decide +kernel
theorem dX11_ages_90 : decode cX11_ages 90 = .ok (.invokevirtual 152, 3) := by decide +kernel
theorem dX11_ages_93 : decode cX11_ages 93 = .ok (.iload 7, 2) := by decide +kernel
theorem dX11_ages_95 : decode cX11_ages 95 = .ok (.if_icmp .eq 6, 3) := by decide +kernel
theorem dX11_ages_98 : decode cX11_ages 98 = .ok (.iinc 5 1, 3) := by decide +kernel
theorem dX11_ages_101 : decode cX11_ages 101 = .ok (.iinc 6 1, 3) := by decide +kernel
theorem dX11_ages_104 : decode cX11_ages 104 = .ok (.goto (-42), 3) := by decide +kernel
theorem dX11_ages_107 : decode cX11_ages 107 = .ok (.iload_n 3, 1) := by decide +kernel
theorem dX11_ages_108 : decode cX11_ages 108 = .ok (.iconst 2, 1) := by decide +kernel
theorem dX11_ages_109 : decode cX11_ages 109 = .ok (.if_icmp .ne 11, 3) := by decide +kernel
theorem dX11_ages_112 : decode cX11_ages 112 = .ok (.aload_n 0, 1) := by decide +kernel
theorem dX11_ages_113 : decode cX11_ages 113 = .ok (.getfield 48, 3) := by decide +kernel
theorem dX11_ages_116 : decode cX11_ages 116 = .ok (.getfield 274, 3) := by decide +kernel
theorem dX11_ages_119 : decode cX11_ages 119 = .ok (.ireturn, 1) := by decide +kernel
theorem dX11_ages_120 : decode cX11_ages 120 = .ok (.iload_n 3, 1) := by decide +kernel
theorem dX11_ages_121 : decode cX11_ages 121 = .ok (.ifCond .ne 8, 3) := by decide +kernel
theorem dX11_ages_124 : decode cX11_ages 124 = .ok (.iload 4, 2) := by decide +kernel
theorem dX11_ages_126 : decode cX11_ages 126 = .ok (.goto 5, 3) := by decide +kernel
theorem dX11_ages_129 : decode cX11_ages 129 = .ok (.iload 5, 2) := by decide +kernel
theorem dX11_ages_131 : decode cX11_ages 131 = .ok (.ireturn, 1) := by decide +kernel
def g_X11_ages_62 (t0 : Nat)  : Nat → Int32 → Int32 → Int32 → Int32 → Int32 → zH → Option (Int32 × zH)
  | 0, _, _, _, _, _, _ => none
  | n + 1, x2, x3, x4, x5, x6, h => if x2 ≤ x6 then (if x3 = 2 then (some (h.1 (zR t0 5) 4, h)) else (if x3 = 0 then (some (x4, h)) else (some (x5, h)))) else ((g_X7_governor h (zR t0 5)).bind fun v_12 => (g_X11_passDrawnDay h t0).bind fun v_13 => (g_X7_governor v_13.2 (zR t0 5)).bind fun v_14 => if v_14 = v_12 then (g_X11_ages_62 t0 n x2 x3 (x4 + v_13.1) x5 (x6 + 1) v_13.2) else (g_X11_ages_62 t0 n x2 x3 (x4 + v_13.1) (x5 + 1) (x6 + 1) v_13.2))
def g_X11_ages (h : zH) (t0 : Nat) (x1 : Int32) (x2 : Int32) (x3 : Int32) : Option (Int32 × zH) := if x1 < 0 then (some ((-1), h)) else (if 9999 < x1 then (some ((-1), h)) else (if x2 < 1 then (some ((-1), h)) else (if 99 < x2 then (some ((-1), h)) else (if x3 < 0 then (some ((-1), h)) else (if x3 ≤ 2 then ((g_X7_become h (zR t0 5) (zR (zR t0 6) 0)).bind fun v_7 => zlet (zpl v_7 t0 9 x1.toInt64) fun h_8 => g_X11_ages_62 t0 zfu x2 x3 0 0 0 h_8) else (some ((-1), h)))))))
set_option maxRecDepth 100000 in
set_option maxHeartbeats 4000000 in
theorem b_X11_ages_62 {K : zK} {G : zG} (hK : zC K G cX11_ages RX11 8 6 136 (some .int)) {t0 : Nat} (ht0 : zT t0 = (10, 0)) {r : Int32 × zH} (hE : zE K G (some (.int r.1)) r.2) : ∀ (n : Nat) (x2 : Int32) (x3 : Int32) (x4 : Int32) (x5 : Int32) (x6 : Int32) (h : zH), g_X11_ages_62 t0 n x2 x3 x4 x5 x6 h = some r → zW K G 8 62 [(0, .ref (G.2.2.2 t0)), (2, .int x2), (3, .int x3), (4, .int x4), (5, .int x5), (6, .int x6)] [] h := by
  intro n
  induction n with
  | zero => intro x2 x3 x4 x5 x6 h hg; exact nomatch (show none = some r from hg)
  | succ n ih =>
    intro x2 x3 x4 x5 x6 h hg
    rw [g_X11_ages_62] at hg
    refine z_iload (pc := 62) hK 5 dX11_ages_62 rfl (z_iload_n (pc := 64) hK 1 dX11_ages_64 rfl (z_icmp_ge (pc := 65) hK 107 dX11_ages_65 (by decide) (fun c_9 => ?_) (fun c_9 => ?_)))
    · rw [if_pos c_9] at hg
      refine z_iload_n (pc := 107) hK 2 dX11_ages_107 rfl (z_iconst (pc := 108) hK dX11_ages_108 zc_i2 (z_icmp_ne (pc := 109) hK 120 dX11_ages_109 (by decide) (fun c_10 => ?_) (fun c_10 => ?_)))
      · rw [if_neg c_10] at hg
        refine z_iload_n (pc := 120) hK 2 dX11_ages_120 rfl (z_if_ne (pc := 121) hK 129 dX11_ages_121 (by decide) (fun c_11 => ?_) (fun c_11 => ?_))
        · rw [if_neg c_11] at hg
          exact z_iload (pc := 129) hK 4 dX11_ages_129 rfl (z_iretE (pc := 131) hK hE hg dX11_ages_131)
        · rw [if_pos c_11] at hg
          exact z_iload (pc := 124) hK 3 dX11_ages_124 rfl (z_goto (pc := 126) hK 131 dX11_ages_126 (by decide) (z_iretE (pc := 131) hK hE hg dX11_ages_131))
      · rw [if_pos c_10] at hg
        exact z_aload_n (pc := 112) hK 0 dX11_ages_112 rfl (z_getR (pc := 113) hK f_X11_48_10 ht0 dX11_ages_113 (z_getI (pc := 116) hK f_X11_274_6 (zt_10_5 ht0) dX11_ages_116 (z_iretE (pc := 119) hK hE hg dX11_ages_119)))
    · rw [if_neg c_9] at hg
      obtain ⟨v_12, qv_12, hg⟩ := zbind_some hg
      obtain ⟨v_13, qv_13, hg⟩ := zbind_some hg
      obtain ⟨v_14, qv_14, hg⟩ := zbind_some hg
      refine z_aload_n (pc := 68) hK 0 dX11_ages_68 rfl (z_getR (pc := 69) hK f_X11_48_10 ht0 dX11_ages_69 (z_callVi (pc := 72) hK [] (m_X7_governor (zC_D hK) (zt_10_5 ht0) qv_12) sv_X7_governor q_909 (zt_10_5 ht0) rfl [] rfl (Nat.le_of_ble_eq_true rfl) ⟨by decide, by decide⟩ dX11_ages_72 (z_istore (pc := 75) hK (lv' := [(7, .int v_12), (0, .ref (G.2.2.2 t0)), (2, .int x2), (3, .int x3), (4, .int x4), (5, .int x5), (6, .int x6)]) dX11_ages_75 (by decide) rfl (z_iload (pc := 77) hK 4 dX11_ages_77 rfl (z_aload_n (pc := 79) hK 1 dX11_ages_79 rfl (z_callVi (pc := 80) hK [] (m_X11_passDrawnDay (zC_D hK) ht0 qv_13) sv_X11_passDrawnDay q_1174 ht0 rfl [.int x4] rfl (Nat.le_of_ble_eq_true rfl) ⟨by decide, by decide⟩ dX11_ages_80 (z_iadd (pc := 83) hK dX11_ages_83 (z_istore (pc := 84) hK (lv' := [(4, .int (x4 + v_13.1)), (7, .int v_12), (0, .ref (G.2.2.2 t0)), (2, .int x2), (3, .int x3), (5, .int x5), (6, .int x6)]) dX11_ages_84 (by decide) rfl (z_aload_n (pc := 86) hK 2 dX11_ages_86 rfl (z_getR (pc := 87) hK f_X11_48_10 ht0 dX11_ages_87 (z_callVi (pc := 90) hK [] (m_X7_governor (zC_D hK) (zt_10_5 ht0) qv_14) sv_X7_governor q_909 (zt_10_5 ht0) rfl [] rfl (Nat.le_of_ble_eq_true rfl) ⟨by decide, by decide⟩ dX11_ages_90 (z_iload (pc := 93) hK 1 dX11_ages_93 rfl (z_icmp_eq (pc := 95) hK 101 dX11_ages_95 (by decide) (fun c_15 => ?_) (fun c_15 => ?_))))))))))))))
      · rw [if_pos c_15] at hg
        exact z_iinc (pc := 101) hK 6 (lv' := [(6, .int (x6 + 1)), (4, .int (x4 + v_13.1)), (7, .int v_12), (0, .ref (G.2.2.2 t0)), (2, .int x2), (3, .int x3), (5, .int x5)]) dX11_ages_101 rfl (zc_n1 _) (by decide) rfl (z_goto (pc := 104) hK 62 dX11_ages_104 (by decide) (zsub (lv' := [(0, .ref (G.2.2.2 t0)), (2, .int x2), (3, .int x3), (4, .int (x4 + v_13.1)), (5, .int x5), (6, .int (x6 + 1))]) [3, 4, 5, 1, 6, 0] rfl (ih x2 x3 (x4 + v_13.1) x5 (x6 + 1) v_13.2 hg)))
      · rw [if_neg c_15] at hg
        exact z_iinc (pc := 98) hK 5 (lv' := [(5, .int (x5 + 1)), (4, .int (x4 + v_13.1)), (7, .int v_12), (0, .ref (G.2.2.2 t0)), (2, .int x2), (3, .int x3), (6, .int x6)]) dX11_ages_98 rfl (zc_n1 _) (by decide) rfl (z_iinc (pc := 101) hK 6 (lv' := [(6, .int (x6 + 1)), (5, .int (x5 + 1)), (4, .int (x4 + v_13.1)), (7, .int v_12), (0, .ref (G.2.2.2 t0)), (2, .int x2), (3, .int x3)]) dX11_ages_101 rfl (zc_n1 _) (by decide) rfl (z_goto (pc := 104) hK 62 dX11_ages_104 (by decide) (zsub (lv' := [(0, .ref (G.2.2.2 t0)), (2, .int x2), (3, .int x3), (4, .int (x4 + v_13.1)), (5, .int (x5 + 1)), (6, .int (x6 + 1))]) [4, 5, 6, 2, 1, 0] rfl (ih x2 x3 (x4 + v_13.1) (x5 + 1) (x6 + 1) v_13.2 hg))))
set_option maxRecDepth 100000 in
set_option maxHeartbeats 4000000 in
theorem b_X11_ages {K : zK} {G : zG} (hK : zC K G cX11_ages RX11 8 6 136 (some .int)) {h : zH} {t0 : Nat} {x1 : Int32} {x2 : Int32} {x3 : Int32} (ht0 : zT t0 = (10, 0)) {r : Int32 × zH} (hE : zE K G (some (.int r.1)) r.2) (hg : g_X11_ages h t0 x1 x2 x3 = some r) : zW K G 8 0 [(0, .ref (G.2.2.2 t0)), (1, .int x1), (2, .int x2), (3, .int x3)] [] h := by
  rw [g_X11_ages] at hg
  refine z_iload_n (pc := 0) hK 1 dX11_ages_0 rfl (z_if_lt (pc := 1) hK 31 dX11_ages_1 (by decide) (fun c_1 => ?_) (fun c_1 => ?_))
  · rw [if_pos c_1] at hg
    exact z_iconst (pc := 31) hK dX11_ages_31 zc_im1 (z_iretE (pc := 32) hK hE hg dX11_ages_32)
  · rw [if_neg c_1] at hg
    refine z_iload_n (pc := 4) hK 1 dX11_ages_4 rfl (z_sipush (pc := 5) hK dX11_ages_5 zc_s9999 (z_icmp_gt (pc := 8) hK 31 dX11_ages_8 (by decide) (fun c_2 => ?_) (fun c_2 => ?_)))
    · rw [if_pos c_2] at hg
      exact z_iconst (pc := 31) hK dX11_ages_31 zc_im1 (z_iretE (pc := 32) hK hE hg dX11_ages_32)
    · rw [if_neg c_2] at hg
      refine z_iload_n (pc := 11) hK 2 dX11_ages_11 rfl (z_iconst (pc := 12) hK dX11_ages_12 zc_i1 (z_icmp_lt (pc := 13) hK 31 dX11_ages_13 (by decide) (fun c_3 => ?_) (fun c_3 => ?_)))
      · rw [if_pos c_3] at hg
        exact z_iconst (pc := 31) hK dX11_ages_31 zc_im1 (z_iretE (pc := 32) hK hE hg dX11_ages_32)
      · rw [if_neg c_3] at hg
        refine z_iload_n (pc := 16) hK 2 dX11_ages_16 rfl (z_bipush (pc := 17) hK dX11_ages_17 zc_b99 (z_icmp_gt (pc := 19) hK 31 dX11_ages_19 (by decide) (fun c_4 => ?_) (fun c_4 => ?_)))
        · rw [if_pos c_4] at hg
          exact z_iconst (pc := 31) hK dX11_ages_31 zc_im1 (z_iretE (pc := 32) hK hE hg dX11_ages_32)
        · rw [if_neg c_4] at hg
          refine z_iload_n (pc := 22) hK 3 dX11_ages_22 rfl (z_if_lt (pc := 23) hK 31 dX11_ages_23 (by decide) (fun c_5 => ?_) (fun c_5 => ?_))
          · rw [if_pos c_5] at hg
            exact z_iconst (pc := 31) hK dX11_ages_31 zc_im1 (z_iretE (pc := 32) hK hE hg dX11_ages_32)
          · rw [if_neg c_5] at hg
            refine z_iload_n (pc := 26) hK 3 dX11_ages_26 rfl (z_iconst (pc := 27) hK dX11_ages_27 zc_i2 (z_icmp_le (pc := 28) hK 33 dX11_ages_28 (by decide) (fun c_6 => ?_) (fun c_6 => ?_)))
            · rw [if_pos c_6] at hg
              obtain ⟨v_7, qv_7, hg⟩ := zbind_some hg
              obtain ⟨h_8, eh_8, hg⟩ := zlet_some hg
              exact z_aload_n (pc := 33) hK 0 dX11_ages_33 rfl (z_getR (pc := 34) hK f_X11_48_10 ht0 dX11_ages_34 (z_aload_n (pc := 37) hK 0 dX11_ages_37 rfl (z_getR (pc := 38) hK f_X11_54_10 ht0 dX11_ages_38 (z_getR (pc := 41) hK f_X11_123_2 (zt_10_6 ht0) dX11_ages_41 (z_callVv (pc := 44) hK [.ref (G.2.2.2 (zR (zR t0 6) 0))] (m_X7_become (zC_D hK) (zt_10_5 ht0) (zt_2_0 (zt_10_6 ht0)) qv_7) sv_X7_become q_1054 (zt_10_5 ht0) rfl [] rfl (Nat.le_of_ble_eq_true rfl) ⟨by decide, by decide⟩ dX11_ages_44 (z_aload_n (pc := 47) hK 0 dX11_ages_47 rfl (z_iload_n (pc := 48) hK 1 dX11_ages_48 rfl (z_i2l (pc := 49) hK dX11_ages_49 rfl (z_putL (pc := 50) hK f_X11_267_10 fp_10_9 ht0 dX11_ages_50 (z_nameH eh_8 (z_iconst (pc := 53) hK dX11_ages_53 zc_i0 (z_istore (pc := 54) hK (lv' := [(4, .int 0), (0, .ref (G.2.2.2 t0)), (1, .int x1), (2, .int x2), (3, .int x3)]) dX11_ages_54 (by decide) rfl (z_iconst (pc := 56) hK dX11_ages_56 zc_i0 (z_istore (pc := 57) hK (lv' := [(5, .int 0), (4, .int 0), (0, .ref (G.2.2.2 t0)), (1, .int x1), (2, .int x2), (3, .int x3)]) dX11_ages_57 (by decide) rfl (z_iconst (pc := 59) hK dX11_ages_59 zc_i0 (z_istore (pc := 60) hK (lv' := [(6, .int 0), (5, .int 0), (4, .int 0), (0, .ref (G.2.2.2 t0)), (1, .int x1), (2, .int x2), (3, .int x3)]) dX11_ages_60 (by decide) rfl (zsub (lv' := [(0, .ref (G.2.2.2 t0)), (2, .int x2), (3, .int x3), (4, .int 0), (5, .int 0), (6, .int 0)]) [3, 5, 6, 2, 1, 0] rfl (b_X11_ages_62 hK ht0 hE zfu x2 x3 0 0 0 h_8 hg))))))))))))))))))
            · rw [if_neg c_6] at hg
              exact z_iconst (pc := 31) hK dX11_ages_31 zc_im1 (z_iretE (pc := 32) hK hE hg dX11_ages_32)
theorem m_X11_ages {l : Launch} {G : zG} (hG : zD G) {h : zH} {t0 : Nat} {x1 : Int32} {x2 : Int32} {x3 : Int32} (ht0 : zT t0 = (10, 0)) {r : Int32 × zH} (hg : g_X11_ages h t0 x1 x2 x3 = some r) : zM l G yX11_ages cX11_ages 8 (some .int) 6 136 [.ref (G.2.2.2 t0), .int x1, .int x2, .int x3] h (some (.int r.1)) r.2 :=
  zM_of hG pn_X11 (Nat.le_of_ble_eq_true rfl) (fun K _ hK hE => b_X11_ages hK ht0 hE hg)
