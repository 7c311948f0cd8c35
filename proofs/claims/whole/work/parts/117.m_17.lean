theorem dX12_bars_0 : decode cX12_bars 0 = .ok (.aload_n 0, 1) := by decide +kernel
theorem dX12_bars_1 : decode cX12_bars 1 = .ok (.iconst 0, 1) := by decide +kernel
theorem dX12_bars_2 : decode cX12_bars 2 = .ok (.putfield 126, 3) := by decide +kernel
theorem dX12_bars_5 : decode cX12_bars 5 = .ok (.iload_n 1, 1) := by decide +kernel
theorem dX12_bars_6 : decode cX12_bars 6 = .ok (.iconst 0, 1) := by decide +kernel
theorem dX12_bars_7 : decode cX12_bars 7 = .ok (.iconst 2, 1) := by decide +kernel
theorem dX12_bars_8 : decode cX12_bars 8 = .ok (.invokestatic 259, 3) := by decide +kernel
theorem dX12_bars_11 : decode cX12_bars 11 = .ok (.ifCond .ne 5, 3) := by decide +kernel
theorem dX12_bars_14 : decode cX12_bars 14 = .ok (.iconst (-1), 1) := by decide +kernel
theorem dX12_bars_15 : decode cX12_bars 15 = .ok (.ireturn, 1) := by decide +kernel
theorem dX12_bars_16 : decode cX12_bars 16 = .ok (.iconst 0, 1) := by decide +kernel
theorem dX12_bars_17 : decode cX12_bars 17 = .ok (.istore_n 2, 1) := by decide +kernel
theorem dX12_bars_18 : decode cX12_bars 18 = .ok (.iconst (-1), 1) := by decide +kernel
theorem dX12_bars_19 : decode cX12_bars 19 = .ok (.istore_n 3, 1) := by decide +kernel
theorem dX12_bars_20 : decode cX12_bars 20 = .ok (.iconst (-1), 1) := by decide +kernel
theorem dX12_bars_21 : decode cX12_bars 21 = .ok (.istore 4, 2) := by decide +kernel
theorem dX12_bars_23 : decode cX12_bars 23 = .ok (.iconst 1, 1) := by decide +kernel
theorem dX12_bars_24 : decode cX12_bars 24 = .ok (.istore 5, 2) := by decide +kernel
theorem dX12_bars_26 : decode cX12_bars 26 = .ok (.iload 5, 2) := by decide +kernel
theorem dX12_bars_28 : decode cX12_bars 28 = .ok (.bipush 10, 2) := by decide +kernel
theorem dX12_bars_30 : decode cX12_bars 30 = .ok (.if_icmp .ge 35, 3) := by decide +kernel
theorem dX12_bars_33 : decode cX12_bars 33 = .ok (.aload_n 0, 1) := by decide +kernel
theorem dX12_bars_34 : decode cX12_bars 34 = .ok (.iload 5, 2) := by decide +kernel
theorem dX12_bars_36 : decode cX12_bars 36 = .ok (.invokevirtual 443, 3) := by decide +kernel
theorem dX12_bars_39 : decode cX12_bars 39 = .ok (.ifCond .ne 6, 3) := by decide +kernel
theorem dX12_bars_42 : decode cX12_bars 42 = .ok (.goto 17, 3) := by decide +kernel
theorem dX12_bars_45 : decode cX12_bars 45 = .ok (.iinc 2 1, 3) := by decide +kernel
theorem dX12_bars_48 : decode cX12_bars 48 = .ok (.iload_n 3, 1) := by decide +kernel
theorem dX12_bars_49 : decode cX12_bars 49 = .ok (.ifCond .ge 6, 3) := by decide +kernel
theorem dX12_bars_52 : decode cX12_bars 52 = .ok (.iload 5, 2) := by decide +kernel
theorem dX12_bars_54 : decode cX12_bars 54 = .ok (.istore_n 3, 1) := by decide +kernel
theorem dX12_bars_55 : decode cX12_bars 55 = .ok (.iload 5, 2) := by decide +kernel
theorem dX12_bars_57 : decode cX12_bars 57 = .ok (.istore 4, 2) := by decide +kernel
theorem dX12_bars_59 : decode cX12_bars 59 = .ok (.iinc 5 1, 3) := by decide +kernel
theorem dX12_bars_62 : decode cX12_bars 62 = .ok (.goto (-36), 3) := by decide +kernel
theorem dX12_bars_65 : decode cX12_bars 65 = .ok (.iload_n 1, 1) := by decide +kernel
theorem dX12_bars_66 : decode cX12_bars 66 = .ok (.ifCond .ne 7, 3) := by decide +kernel
theorem dX12_bars_69 : decode cX12_bars 69 = .ok (.iload_n 2, 1) := by decide +kernel
theorem dX12_bars_70 : decode cX12_bars 70 = .ok (.goto 14, 3) := by decide +kernel
theorem dX12_bars_73 : decode cX12_bars 73 = .ok (.iload_n 1, 1) := by decide +kernel
theorem dX12_bars_74 : decode cX12_bars 74 = .ok (.iconst 1, 1) := by decide +kernel
theorem dX12_bars_75 : decode cX12_bars 75 = .ok (.if_icmp .ne 7, 3) := by decide +kernel
theorem dX12_bars_78 : decode cX12_bars 78 = .ok (.iload_n 3, 1) := by decide +kernel
theorem dX12_bars_79 : decode cX12_bars 79 = .ok (.goto 5, 3) := by decide +kernel
theorem dX12_bars_82 : decode cX12_bars 82 = .ok (.iload 4, 2) := by decide +kernel
theorem dX12_bars_84 : decode cX12_bars 84 = .ok (.ireturn, 1) := by decide +kernel
def g_X12_bars_26 (t0 : Nat)  : Nat → Int32 → Int32 → Int32 → Int32 → Int32 → zH → Option (Int32 × zH)
  | 0, _, _, _, _, _, _ => none
  | n + 1, x1, x2, x3, x4, x5, h => if 10 ≤ x5 then (if x1 = 0 then (some (x2, h)) else (if x1 = 1 then (some (x3, h)) else (some (x4, h)))) else ((g_X12_isAsHeard h t0 x5).bind fun v_7 => if (zb v_7) = 0 then (g_X12_bars_26 t0 n x1 x2 x3 x4 (x5 + 1) h) else (if 0 ≤ x3 then (g_X12_bars_26 t0 n x1 (x2 + 1) x3 x5 (x5 + 1) h) else (g_X12_bars_26 t0 n x1 (x2 + 1) x5 x5 (x5 + 1) h)))
def g_X12_bars (h : zH) (t0 : Nat) (x1 : Int32) : Option (Int32 × zH) := zlet (zpi h t0 0 0) fun h_1 => (g_X12_within h_1 x1 0 2).bind fun v_2 => if (zb v_2) = 0 then (some ((-1), h_1)) else (g_X12_bars_26 t0 zfu x1 0 (-1) (-1) 1 h_1)
set_option maxRecDepth 100000 in
set_option maxHeartbeats 4000000 in
theorem b_X12_bars_26 {K : zK} {G : zG} (hK : zC K G cX12_bars RX12 6 1 22 (some .int)) {t0 : Nat} (ht0 : zT t0 = (11, 0)) {r : Int32 × zH} (hE : zE K G (some (.int r.1)) r.2) : ∀ (n : Nat) (x1 : Int32) (x2 : Int32) (x3 : Int32) (x4 : Int32) (x5 : Int32) (h : zH), g_X12_bars_26 t0 n x1 x2 x3 x4 x5 h = some r → zW K G 6 26 [(0, .ref (G.2.2.2 t0)), (1, .int x1), (2, .int x2), (3, .int x3), (4, .int x4), (5, .int x5)] [] h := by
  intro n
  induction n with
  | zero => intro x1 x2 x3 x4 x5 h hg; exact nomatch (show none = some r from hg)
  | succ n ih =>
    intro x1 x2 x3 x4 x5 h hg
    rw [g_X12_bars_26] at hg
    refine z_iload (pc := 26) hK 5 dX12_bars_26 rfl (z_bipush (pc := 28) hK dX12_bars_28 zc_b10 (z_icmp_ge (pc := 30) hK 65 dX12_bars_30 (by decide) (fun c_4 => ?_) (fun c_4 => ?_)))
    · rw [if_pos c_4] at hg
      refine z_iload_n (pc := 65) hK 1 dX12_bars_65 rfl (z_if_ne (pc := 66) hK 73 dX12_bars_66 (by decide) (fun c_5 => ?_) (fun c_5 => ?_))
      · rw [if_neg c_5] at hg
        refine z_iload_n (pc := 73) hK 1 dX12_bars_73 rfl (z_iconst (pc := 74) hK dX12_bars_74 zc_i1 (z_icmp_ne (pc := 75) hK 82 dX12_bars_75 (by decide) (fun c_6 => ?_) (fun c_6 => ?_)))
        · rw [if_neg c_6] at hg
          exact z_iload (pc := 82) hK 4 dX12_bars_82 rfl (z_iretE (pc := 84) hK hE hg dX12_bars_84)
        · rw [if_pos c_6] at hg
          exact z_iload_n (pc := 78) hK 3 dX12_bars_78 rfl (z_goto (pc := 79) hK 84 dX12_bars_79 (by decide) (z_iretE (pc := 84) hK hE hg dX12_bars_84))
      · rw [if_pos c_5] at hg
        exact z_iload_n (pc := 69) hK 2 dX12_bars_69 rfl (z_goto (pc := 70) hK 84 dX12_bars_70 (by decide) (z_iretE (pc := 84) hK hE hg dX12_bars_84))
    · rw [if_neg c_4] at hg
      obtain ⟨v_7, qv_7, hg⟩ := zbind_some hg
      refine z_aload_n (pc := 33) hK 0 dX12_bars_33 rfl (z_iload (pc := 34) hK 5 dX12_bars_34 rfl (z_callVi (pc := 36) hK [.int x5] (m_X12_isAsHeard (zC_D hK) ht0 qv_7) sv_X12_isAsHeard q_1820 ht0 rfl [] rfl (Nat.le_of_ble_eq_true rfl) ⟨by decide, by decide⟩ dX12_bars_36 (z_if_ne (pc := 39) hK 45 dX12_bars_39 (by decide) (fun c_8 => ?_) (fun c_8 => ?_))))
      · rw [if_neg c_8] at hg
        refine z_iinc (pc := 45) hK 2 (lv' := [(2, .int (x2 + 1)), (0, .ref (G.2.2.2 t0)), (1, .int x1), (3, .int x3), (4, .int x4), (5, .int x5)]) dX12_bars_45 rfl (zc_n1 _) (by decide) rfl (z_iload_n (pc := 48) hK 3 dX12_bars_48 rfl (z_if_ge (pc := 49) hK 55 dX12_bars_49 (by decide) (fun c_9 => ?_) (fun c_9 => ?_)))
        · rw [if_pos c_9] at hg
          exact z_iload (pc := 55) hK 5 dX12_bars_55 rfl (z_istore (pc := 57) hK (lv' := [(4, .int x5), (2, .int (x2 + 1)), (0, .ref (G.2.2.2 t0)), (1, .int x1), (3, .int x3), (5, .int x5)]) dX12_bars_57 (by decide) rfl (z_iinc (pc := 59) hK 5 (lv' := [(5, .int (x5 + 1)), (4, .int x5), (2, .int (x2 + 1)), (0, .ref (G.2.2.2 t0)), (1, .int x1), (3, .int x3)]) dX12_bars_59 rfl (zc_n1 _) (by decide) rfl (z_goto (pc := 62) hK 26 dX12_bars_62 (by decide) (zsub (lv' := [(0, .ref (G.2.2.2 t0)), (1, .int x1), (2, .int (x2 + 1)), (3, .int x3), (4, .int x5), (5, .int (x5 + 1))]) [3, 4, 2, 5, 1, 0] rfl (ih x1 (x2 + 1) x3 x5 (x5 + 1) h hg)))))
        · rw [if_neg c_9] at hg
          exact z_iload (pc := 52) hK 5 dX12_bars_52 rfl (z_istore_n (pc := 54) hK (lv' := [(3, .int x5), (2, .int (x2 + 1)), (0, .ref (G.2.2.2 t0)), (1, .int x1), (4, .int x4), (5, .int x5)]) dX12_bars_54 (by decide) rfl (z_iload (pc := 55) hK 5 dX12_bars_55 rfl (z_istore (pc := 57) hK (lv' := [(4, .int x5), (3, .int x5), (2, .int (x2 + 1)), (0, .ref (G.2.2.2 t0)), (1, .int x1), (5, .int x5)]) dX12_bars_57 (by decide) rfl (z_iinc (pc := 59) hK 5 (lv' := [(5, .int (x5 + 1)), (4, .int x5), (3, .int x5), (2, .int (x2 + 1)), (0, .ref (G.2.2.2 t0)), (1, .int x1)]) dX12_bars_59 rfl (zc_n1 _) (by decide) rfl (z_goto (pc := 62) hK 26 dX12_bars_62 (by decide) (zsub (lv' := [(0, .ref (G.2.2.2 t0)), (1, .int x1), (2, .int (x2 + 1)), (3, .int x5), (4, .int x5), (5, .int (x5 + 1))]) [4, 5, 3, 2, 1, 0] rfl (ih x1 (x2 + 1) x5 x5 (x5 + 1) h hg)))))))
      · rw [if_pos c_8] at hg
        exact z_goto (pc := 42) hK 59 dX12_bars_42 (by decide) (z_iinc (pc := 59) hK 5 (lv' := [(5, .int (x5 + 1)), (0, .ref (G.2.2.2 t0)), (1, .int x1), (2, .int x2), (3, .int x3), (4, .int x4)]) dX12_bars_59 rfl (zc_n1 _) (by decide) rfl (z_goto (pc := 62) hK 26 dX12_bars_62 (by decide) (zsub (lv' := [(0, .ref (G.2.2.2 t0)), (1, .int x1), (2, .int x2), (3, .int x3), (4, .int x4), (5, .int (x5 + 1))]) [1, 2, 3, 4, 5, 0] rfl (ih x1 x2 x3 x4 (x5 + 1) h hg))))
set_option maxRecDepth 100000 in
set_option maxHeartbeats 4000000 in
theorem b_X12_bars {K : zK} {G : zG} (hK : zC K G cX12_bars RX12 6 1 22 (some .int)) {h : zH} {t0 : Nat} {x1 : Int32} (ht0 : zT t0 = (11, 0)) {r : Int32 × zH} (hE : zE K G (some (.int r.1)) r.2) (hg : g_X12_bars h t0 x1 = some r) : zW K G 6 0 [(0, .ref (G.2.2.2 t0)), (1, .int x1)] [] h := by
  rw [g_X12_bars] at hg
  obtain ⟨h_1, eh_1, hg⟩ := zlet_some hg
  obtain ⟨v_2, qv_2, hg⟩ := zbind_some hg
  refine z_aload_n (pc := 0) hK 0 dX12_bars_0 rfl (z_iconst (pc := 1) hK dX12_bars_1 zc_i0 (z_putI (pc := 2) hK f_X12_126_11 fp_11_0 ht0 dX12_bars_2 (z_nameH eh_1 (z_iload_n (pc := 5) hK 1 dX12_bars_5 rfl (z_iconst (pc := 6) hK dX12_bars_6 zc_i0 (z_iconst (pc := 7) hK dX12_bars_7 zc_i2 (z_callSi (pc := 8) hK [.int x1, .int 0, .int 2] (m_X12_within (zC_D hK) qv_2) ss_X12_within q_1538 rfl [] rfl (Nat.le_of_ble_eq_true rfl) ⟨by decide, by decide⟩ dX12_bars_8 (z_if_ne (pc := 11) hK 16 dX12_bars_11 (by decide) (fun c_3 => ?_) (fun c_3 => ?_)))))))))
  · rw [if_neg c_3] at hg
    exact z_iconst (pc := 16) hK dX12_bars_16 zc_i0 (z_istore_n (pc := 17) hK (lv' := [(2, .int 0), (0, .ref (G.2.2.2 t0)), (1, .int x1)]) dX12_bars_17 (by decide) rfl (z_iconst (pc := 18) hK dX12_bars_18 zc_im1 (z_istore_n (pc := 19) hK (lv' := [(3, .int (-1)), (2, .int 0), (0, .ref (G.2.2.2 t0)), (1, .int x1)]) dX12_bars_19 (by decide) rfl (z_iconst (pc := 20) hK dX12_bars_20 zc_im1 (z_istore (pc := 21) hK (lv' := [(4, .int (-1)), (3, .int (-1)), (2, .int 0), (0, .ref (G.2.2.2 t0)), (1, .int x1)]) dX12_bars_21 (by decide) rfl (z_iconst (pc := 23) hK dX12_bars_23 zc_i1 (z_istore (pc := 24) hK (lv' := [(5, .int 1), (4, .int (-1)), (3, .int (-1)), (2, .int 0), (0, .ref (G.2.2.2 t0)), (1, .int x1)]) dX12_bars_24 (by decide) rfl (zsub (lv' := [(0, .ref (G.2.2.2 t0)), (1, .int x1), (2, .int 0), (3, .int (-1)), (4, .int (-1)), (5, .int 1)]) [4, 5, 3, 2, 1, 0] rfl (b_X12_bars_26 hK ht0 hE zfu x1 0 (-1) (-1) 1 h_1 hg)))))))))
  · rw [if_pos c_3] at hg
    exact z_iconst (pc := 14) hK dX12_bars_14 zc_im1 (z_iretE (pc := 15) hK hE hg dX12_bars_15)
theorem m_X12_bars {l : Launch} {G : zG} (hG : zD G) {h : zH} {t0 : Nat} {x1 : Int32} (ht0 : zT t0 = (11, 0)) {r : Int32 × zH} (hg : g_X12_bars h t0 x1 = some r) : zM l G yX12_bars cX12_bars 6 (some .int) 1 22 [.ref (G.2.2.2 t0), .int x1] h (some (.int r.1)) r.2 :=
  zM_of hG pn_X12 (Nat.le_of_ble_eq_true rfl) (fun K _ hK hE => b_X12_bars hK ht0 hE hg)
theorem dX12_ask_0 : decode cX12_ask 0 = .ok (.aload_n 0, 1) := by decide +kernel
theorem dX12_ask_1 : decode cX12_ask 1 = .ok (.iconst 0, 1) := by decide +kernel
theorem dX12_ask_2 : decode cX12_ask 2 = .ok (.putfield 126, 3) := by decide +kernel
theorem dX12_ask_5 : decode cX12_ask 5 = .ok (.aload_n 0, 1) := by decide +kernel
theorem dX12_ask_6 : decode cX12_ask 6 = .ok (.iconst 0, 1) := by decide +kernel
theorem dX12_ask_7 : decode cX12_ask 7 = .ok (.invokevirtual 446, 3) := by decide +kernel
theorem dX12_ask_10 : decode cX12_ask 10 = .ok (.istore_n 1, 1) := by decide +kernel
theorem dX12_ask_11 : decode cX12_ask 11 = .ok (.iload_n 1, 1) := by decide +kernel
theorem dX12_ask_12 : decode cX12_ask 12 = .ok (.istore_n 2, 1) := by decide +kernel
theorem dX12_ask_13 : decode cX12_ask 13 = .ok (.iconst (-1), 1) := by decide +kernel
theorem dX12_ask_14 : decode cX12_ask 14 = .ok (.istore_n 3, 1) := by decide +kernel
theorem dX12_ask_15 : decode cX12_ask 15 = .ok (.iconst 0, 1) := by decide +kernel
theorem dX12_ask_16 : decode cX12_ask 16 = .ok (.istore 4, 2) := by decide +kernel
theorem dX12_ask_18 : decode cX12_ask 18 = .ok (.iload 4, 2) := by decide +kernel
theorem dX12_ask_20 : decode cX12_ask 20 = .ok (.bipush 10, 2) := by decide +kernel
theorem dX12_ask_22 : decode cX12_ask 22 = .ok (.if_icmp .ge 73, 3) := by decide +kernel
theorem dX12_ask_25 : decode cX12_ask 25 = .ok (.iconst 0, 1) := by decide +kernel
theorem dX12_ask_26 : decode cX12_ask 26 = .ok (.istore 5, 2) := by decide +kernel
theorem dX12_ask_28 : decode cX12_ask 28 = .ok (.iconst 1, 1) := by decide +kernel
theorem dX12_ask_29 : decode cX12_ask 29 = .ok (.istore 6, 2) := by decide +kernel
theorem dX12_ask_31 : decode cX12_ask 31 = .ok (.iload 6, 2) := by decide +kernel
theorem dX12_ask_33 : decode cX12_ask 33 = .ok (.iload 4, 2) := by decide +kernel
theorem dX12_ask_35 : decode cX12_ask 35 = .ok (.if_icmp .gt 28, 3) := by decide +kernel
theorem dX12_ask_38 : decode cX12_ask 38 = .ok (.iload 5, 2) := by decide +kernel
theorem dX12_ask_40 : decode cX12_ask 40 = .ok (.aload_n 0, 1) := by decide +kernel
theorem dX12_ask_41 : decode cX12_ask 41 = .ok (.iload 6, 2) := by decide +kernel
theorem dX12_ask_43 : decode cX12_ask 43 = .ok (.invokevirtual 443, 3) := by decide +kernel
theorem dX12_ask_46 : decode cX12_ask 46 = .ok (.ifCond .eq 7, 3) := by decide +kernel
theorem dX12_ask_49 : decode cX12_ask 49 = .ok (.iconst 1, 1) := by decide +kernel
theorem dX12_ask_50 : decode cX12_ask 50 = .ok (.goto 4, 3) := by decide +kernel
theorem dX12_ask_53 : decode cX12_ask 53 = .ok (.iconst 0, 1) := by decide +kernel
theorem dX12_ask_54 : decode cX12_ask 54 = .ok (.iadd, 1) := by decide +kernel
theorem dX12_ask_55 : decode cX12_ask 55 = .ok (.istore 5, 2) := by decide +kernel
theorem dX12_ask_57 : decode cX12_ask 57 = .ok (.iinc 6 1, 3) := by decide +kernel
theorem dX12_ask_60 : decode cX12_ask 60 = .ok (.goto (-29), 3) := by decide +kernel
theorem dX12_ask_63 : decode cX12_ask 63 = .ok (.iload 5, 2) := by decide +kernel
theorem dX12_ask_65 : decode cX12_ask 65 = .ok (.iload_n 1, 1) := by decide +kernel
theorem dX12_ask_66 : decode cX12_ask 66 = .ok (.iload 5, 2) := by decide +kernel
theorem dX12_ask_68 : decode cX12_ask 68 = .ok (.isub, 1) := by decide +kernel
theorem dX12_ask_69 : decode cX12_ask 69 = .ok (.invokestatic 388, 3) := by decide +kernel
theorem dX12_ask_72 : decode cX12_ask 72 = .ok (.istore 5, 2) := by decide +kernel
theorem dX12_ask_74 : decode cX12_ask 74 = .ok (.iload 5, 2) := by decide +kernel
theorem dX12_ask_76 : decode cX12_ask 76 = .ok (.iload_n 2, 1) := by decide +kernel
theorem dX12_ask_77 : decode cX12_ask 77 = .ok (.if_icmp .lt 6, 3) := by decide +kernel
theorem dX12_ask_80 : decode cX12_ask 80 = .ok (.goto 9, 3) := by decide +kernel
theorem dX12_ask_83 : decode cX12_ask 83 = .ok (.iload 5, 2) := by decide +kernel
theorem dX12_ask_85 : decode cX12_ask 85 = .ok (.istore_n 2, 1) := by decide +kernel
theorem dX12_ask_86 : decode cX12_ask 86 = .ok (.iload 4, 2) := by decide +kernel
theorem dX12_ask_88 : decode cX12_ask 88 = .ok (.istore_n 3, 1) := by decide +kernel
theorem dX12_ask_89 : decode cX12_ask 89 = .ok (.iinc 4 1, 3) := by decide +kernel
theorem dX12_ask_92 : decode cX12_ask 92 = .ok (.goto (-74), 3) := by decide +kernel
theorem dX12_ask_95 : decode cX12_ask 95 = .ok (.iload_n 3, 1) := by decide +kernel
theorem dX12_ask_96 : decode cX12_ask 96 = .ok (.ireturn, 1) := by decide +kernel
def g_X12_ask_31 (t0 : Nat) (k18 : Int32 → Int32 → Int32 → Int32 → zH → Option (Int32 × zH)) : Nat → Int32 → Int32 → Int32 → Int32 → Int32 → Int32 → zH → Option (Int32 × zH)
  | 0, _, _, _, _, _, _, _ => none
  | n + 1, x1, x2, x3, x4, x5, x6, h => if x4 < x6 then (zlet (if x5 < (x1 - x5) then (x1 - x5) else x5) fun v_5 => if v_5 < x2 then (k18 x1 v_5 x4 (x4 + 1) h) else (k18 x1 x2 x3 (x4 + 1) h)) else ((g_X12_isAsHeard h t0 x6).bind fun v_7 => if (zb v_7) = 0 then (g_X12_ask_31 t0 k18 n x1 x2 x3 x4 (x5 + 0) (x6 + 1) h) else (g_X12_ask_31 t0 k18 n x1 x2 x3 x4 (x5 + 1) (x6 + 1) h))
def g_X12_ask_18 (t0 : Nat)  : Nat → Int32 → Int32 → Int32 → Int32 → zH → Option (Int32 × zH)
  | 0, _, _, _, _, _ => none
  | n + 1, x1, x2, x3, x4, h => if 10 ≤ x4 then (some (x3, h)) else (g_X12_ask_31 t0 (g_X12_ask_18 t0 n) zfu x1 x2 x3 x4 0 1 h)
def g_X12_ask (h : zH) (t0 : Nat) : Option (Int32 × zH) := zlet (zpi h t0 0 0) fun h_1 => (g_X12_bars h_1 t0 0).bind fun v_2 => g_X12_ask_18 t0 zfu v_2.1 v_2.1 (-1) 0 v_2.2
set_option maxRecDepth 100000 in
set_option maxHeartbeats 4000000 in
theorem b_X12_ask_31 {K : zK} {G : zG} (hK : zC K G cX12_ask RX12 7 2 47 (some .int)) {t0 : Nat} (ht0 : zT t0 = (11, 0)) {r : Int32 × zH} (hE : zE K G (some (.int r.1)) r.2) {k18 : Int32 → Int32 → Int32 → Int32 → zH → Option (Int32 × zH)} (hk18 : ∀ (x1 : Int32) (x2 : Int32) (x3 : Int32) (x4 : Int32) (h : zH), k18 x1 x2 x3 x4 h = some r → zW K G 7 18 [(0, .ref (G.2.2.2 t0)), (1, .int x1), (2, .int x2), (3, .int x3), (4, .int x4)] [] h) : ∀ (n : Nat) (x1 : Int32) (x2 : Int32) (x3 : Int32) (x4 : Int32) (x5 : Int32) (x6 : Int32) (h : zH), g_X12_ask_31 t0 k18 n x1 x2 x3 x4 x5 x6 h = some r → zW K G 7 31 [(0, .ref (G.2.2.2 t0)), (1, .int x1), (2, .int x2), (3, .int x3), (4, .int x4), (5, .int x5), (6, .int x6)] [] h := by
  intro n
  induction n with
  | zero => intro x1 x2 x3 x4 x5 x6 h hg; exact nomatch (show none = some r from hg)
  | succ n ih =>
    intro x1 x2 x3 x4 x5 x6 h hg
    rw [g_X12_ask_31] at hg
    refine z_iload (pc := 31) hK 6 dX12_ask_31 rfl (z_iload (pc := 33) hK 4 dX12_ask_33 rfl (z_icmp_gt (pc := 35) hK 63 dX12_ask_35 (by decide) (fun c_4 => ?_) (fun c_4 => ?_)))
    · rw [if_pos c_4] at hg
      obtain ⟨v_5, ev_5, hg⟩ := zlet_some hg
      refine z_iload (pc := 63) hK 5 dX12_ask_63 rfl (z_iload_n (pc := 65) hK 1 dX12_ask_65 rfl (z_iload (pc := 66) hK 5 dX12_ask_66 rfl (z_isub (pc := 68) hK dX12_ask_68 (z_mmax (pc := 69) hK q_1719 zw_max ⟨by decide, Nat.le_of_ble_eq_true rfl⟩ dX12_ask_69 (z_nameI ev_5 (z_istore (pc := 72) hK (lv' := [(5, .int v_5), (0, .ref (G.2.2.2 t0)), (1, .int x1), (2, .int x2), (3, .int x3), (4, .int x4), (6, .int x6)]) dX12_ask_72 (by decide) rfl (z_iload (pc := 74) hK 0 dX12_ask_74 rfl (z_iload_n (pc := 76) hK 3 dX12_ask_76 rfl (z_icmp_lt (pc := 77) hK 83 dX12_ask_77 (by decide) (fun c_6 => ?_) (fun c_6 => ?_))))))))))
      · rw [if_pos c_6] at hg
        exact z_iload (pc := 83) hK 0 dX12_ask_83 rfl (z_istore_n (pc := 85) hK (lv' := [(2, .int v_5), (5, .int v_5), (0, .ref (G.2.2.2 t0)), (1, .int x1), (3, .int x3), (4, .int x4), (6, .int x6)]) dX12_ask_85 (by decide) rfl (z_iload (pc := 86) hK 5 dX12_ask_86 rfl (z_istore_n (pc := 88) hK (lv' := [(3, .int x4), (2, .int v_5), (5, .int v_5), (0, .ref (G.2.2.2 t0)), (1, .int x1), (4, .int x4), (6, .int x6)]) dX12_ask_88 (by decide) rfl (z_iinc (pc := 89) hK 5 (lv' := [(4, .int (x4 + 1)), (3, .int x4), (2, .int v_5), (5, .int v_5), (0, .ref (G.2.2.2 t0)), (1, .int x1), (6, .int x6)]) dX12_ask_89 rfl (zc_n1 _) (by decide) rfl (z_goto (pc := 92) hK 18 dX12_ask_92 (by decide) (zsub (lv' := [(0, .ref (G.2.2.2 t0)), (1, .int x1), (2, .int v_5), (3, .int x4), (4, .int (x4 + 1))]) [4, 5, 2, 1, 0] rfl (hk18 x1 v_5 x4 (x4 + 1) h hg)))))))
      · rw [if_neg c_6] at hg
        exact z_goto (pc := 80) hK 89 dX12_ask_80 (by decide) (z_iinc (pc := 89) hK 5 (lv' := [(4, .int (x4 + 1)), (5, .int v_5), (0, .ref (G.2.2.2 t0)), (1, .int x1), (2, .int x2), (3, .int x3), (6, .int x6)]) dX12_ask_89 rfl (zc_n1 _) (by decide) rfl (z_goto (pc := 92) hK 18 dX12_ask_92 (by decide) (zsub (lv' := [(0, .ref (G.2.2.2 t0)), (1, .int x1), (2, .int x2), (3, .int x3), (4, .int (x4 + 1))]) [2, 3, 4, 5, 0] rfl (hk18 x1 x2 x3 (x4 + 1) h hg))))
    · rw [if_neg c_4] at hg
      obtain ⟨v_7, qv_7, hg⟩ := zbind_some hg
      refine z_iload (pc := 38) hK 5 dX12_ask_38 rfl (z_aload_n (pc := 40) hK 0 dX12_ask_40 rfl (z_iload (pc := 41) hK 6 dX12_ask_41 rfl (z_callVi (pc := 43) hK [.int x6] (m_X12_isAsHeard (zC_D hK) ht0 qv_7) sv_X12_isAsHeard q_1820 ht0 rfl [.int x5] rfl (Nat.le_of_ble_eq_true rfl) ⟨by decide, by decide⟩ dX12_ask_43 (z_if_eq (pc := 46) hK 53 dX12_ask_46 (by decide) (fun c_8 => ?_) (fun c_8 => ?_)))))
      · rw [if_pos c_8] at hg
        exact z_iconst (pc := 53) hK dX12_ask_53 zc_i0 (z_iadd (pc := 54) hK dX12_ask_54 (z_istore (pc := 55) hK (lv' := [(5, .int (x5 + 0)), (0, .ref (G.2.2.2 t0)), (1, .int x1), (2, .int x2), (3, .int x3), (4, .int x4), (6, .int x6)]) dX12_ask_55 (by decide) rfl (z_iinc (pc := 57) hK 6 (lv' := [(6, .int (x6 + 1)), (5, .int (x5 + 0)), (0, .ref (G.2.2.2 t0)), (1, .int x1), (2, .int x2), (3, .int x3), (4, .int x4)]) dX12_ask_57 rfl (zc_n1 _) (by decide) rfl (z_goto (pc := 60) hK 31 dX12_ask_60 (by decide) (zsub (lv' := [(0, .ref (G.2.2.2 t0)), (1, .int x1), (2, .int x2), (3, .int x3), (4, .int x4), (5, .int (x5 + 0)), (6, .int (x6 + 1))]) [2, 3, 4, 5, 6, 1, 0] rfl (ih x1 x2 x3 x4 (x5 + 0) (x6 + 1) h hg))))))
      · rw [if_neg c_8] at hg
        exact z_iconst (pc := 49) hK dX12_ask_49 zc_i1 (z_goto (pc := 50) hK 54 dX12_ask_50 (by decide) (z_iadd (pc := 54) hK dX12_ask_54 (z_istore (pc := 55) hK (lv' := [(5, .int (x5 + 1)), (0, .ref (G.2.2.2 t0)), (1, .int x1), (2, .int x2), (3, .int x3), (4, .int x4), (6, .int x6)]) dX12_ask_55 (by decide) rfl (z_iinc (pc := 57) hK 6 (lv' := [(6, .int (x6 + 1)), (5, .int (x5 + 1)), (0, .ref (G.2.2.2 t0)), (1, .int x1), (2, .int x2), (3, .int x3), (4, .int x4)]) dX12_ask_57 rfl (zc_n1 _) (by decide) rfl (z_goto (pc := 60) hK 31 dX12_ask_60 (by decide) (zsub (lv' := [(0, .ref (G.2.2.2 t0)), (1, .int x1), (2, .int x2), (3, .int x3), (4, .int x4), (5, .int (x5 + 1)), (6, .int (x6 + 1))]) [2, 3, 4, 5, 6, 1, 0] rfl (ih x1 x2 x3 x4 (x5 + 1) (x6 + 1) h hg)))))))
set_option maxRecDepth 100000 in
set_option maxHeartbeats 4000000 in
theorem b_X12_ask_18 {K : zK} {G : zG} (hK : zC K G cX12_ask RX12 7 2 47 (some .int)) {t0 : Nat} (ht0 : zT t0 = (11, 0)) {r : Int32 × zH} (hE : zE K G (some (.int r.1)) r.2) : ∀ (n : Nat) (x1 : Int32) (x2 : Int32) (x3 : Int32) (x4 : Int32) (h : zH), g_X12_ask_18 t0 n x1 x2 x3 x4 h = some r → zW K G 7 18 [(0, .ref (G.2.2.2 t0)), (1, .int x1), (2, .int x2), (3, .int x3), (4, .int x4)] [] h := by
  intro n
  induction n with
  | zero => intro x1 x2 x3 x4 h hg; exact nomatch (show none = some r from hg)
  | succ n ih =>
    intro x1 x2 x3 x4 h hg
    rw [g_X12_ask_18] at hg
    refine z_iload (pc := 18) hK 4 dX12_ask_18 rfl (z_bipush (pc := 20) hK dX12_ask_20 zc_b10 (z_icmp_ge (pc := 22) hK 95 dX12_ask_22 (by decide) (fun c_3 => ?_) (fun c_3 => ?_)))
    · rw [if_pos c_3] at hg
      exact z_iload_n (pc := 95) hK 3 dX12_ask_95 rfl (z_iretE (pc := 96) hK hE hg dX12_ask_96)
    · rw [if_neg c_3] at hg
      exact z_iconst (pc := 25) hK dX12_ask_25 zc_i0 (z_istore (pc := 26) hK (lv' := [(5, .int 0), (0, .ref (G.2.2.2 t0)), (1, .int x1), (2, .int x2), (3, .int x3), (4, .int x4)]) dX12_ask_26 (by decide) rfl (z_iconst (pc := 28) hK dX12_ask_28 zc_i1 (z_istore (pc := 29) hK (lv' := [(6, .int 1), (5, .int 0), (0, .ref (G.2.2.2 t0)), (1, .int x1), (2, .int x2), (3, .int x3), (4, .int x4)]) dX12_ask_29 (by decide) rfl (zsub (lv' := [(0, .ref (G.2.2.2 t0)), (1, .int x1), (2, .int x2), (3, .int x3), (4, .int x4), (5, .int 0), (6, .int 1)]) [2, 3, 4, 5, 6, 1, 0] rfl (b_X12_ask_31 hK ht0 hE ih zfu x1 x2 x3 x4 0 1 h hg)))))
set_option maxRecDepth 100000 in
set_option maxHeartbeats 4000000 in
theorem b_X12_ask {K : zK} {G : zG} (hK : zC K G cX12_ask RX12 7 2 47 (some .int)) {h : zH} {t0 : Nat} (ht0 : zT t0 = (11, 0)) {r : Int32 × zH} (hE : zE K G (some (.int r.1)) r.2) (hg : g_X12_ask h t0 = some r) : zW K G 7 0 [(0, .ref (G.2.2.2 t0))] [] h := by
  rw [g_X12_ask] at hg
  obtain ⟨h_1, eh_1, hg⟩ := zlet_some hg
  obtain ⟨v_2, qv_2, hg⟩ := zbind_some hg
  exact z_aload_n (pc := 0) hK 0 dX12_ask_0 rfl (z_iconst (pc := 1) hK dX12_ask_1 zc_i0 (z_putI (pc := 2) hK f_X12_126_11 fp_11_0 ht0 dX12_ask_2 (z_nameH eh_1 (z_aload_n (pc := 5) hK 0 dX12_ask_5 rfl (z_iconst (pc := 6) hK dX12_ask_6 zc_i0 (z_callVi (pc := 7) hK [.int 0] (m_X12_bars (zC_D hK) ht0 qv_2) sv_X12_bars q_1828 ht0 rfl [] rfl (Nat.le_of_ble_eq_true rfl) ⟨by decide, by decide⟩ dX12_ask_7 (z_istore_n (pc := 10) hK (lv' := [(1, .int v_2.1), (0, .ref (G.2.2.2 t0))]) dX12_ask_10 (by decide) rfl (z_iload_n (pc := 11) hK 0 dX12_ask_11 rfl (z_istore_n (pc := 12) hK (lv' := [(2, .int v_2.1), (1, .int v_2.1), (0, .ref (G.2.2.2 t0))]) dX12_ask_12 (by decide) rfl (z_iconst (pc := 13) hK dX12_ask_13 zc_im1 (z_istore_n (pc := 14) hK (lv' := [(3, .int (-1)), (2, .int v_2.1), (1, .int v_2.1), (0, .ref (G.2.2.2 t0))]) dX12_ask_14 (by decide) rfl (z_iconst (pc := 15) hK dX12_ask_15 zc_i0 (z_istore (pc := 16) hK (lv' := [(4, .int 0), (3, .int (-1)), (2, .int v_2.1), (1, .int v_2.1), (0, .ref (G.2.2.2 t0))]) dX12_ask_16 (by decide) rfl (zsub (lv' := [(0, .ref (G.2.2.2 t0)), (1, .int v_2.1), (2, .int v_2.1), (3, .int (-1)), (4, .int 0)]) [4, 3, 2, 1, 0] rfl (b_X12_ask_18 hK ht0 hE zfu v_2.1 v_2.1 (-1) 0 v_2.2 hg)))))))))))))))
theorem m_X12_ask {l : Launch} {G : zG} (hG : zD G) {h : zH} {t0 : Nat} (ht0 : zT t0 = (11, 0)) {r : Int32 × zH} (hg : g_X12_ask h t0 = some r) : zM l G yX12_ask cX12_ask 7 (some .int) 2 47 [.ref (G.2.2.2 t0)] h (some (.int r.1)) r.2 :=
  zM_of hG pn_X12 (Nat.le_of_ble_eq_true rfl) (fun K _ hK hE => b_X12_ask hK ht0 hE hg)
theorem dX12_bits_0 : decode cX12_bits 0 = .ok (.iconst 0, 1) := by decide +kernel
theorem dX12_bits_1 : decode cX12_bits 1 = .ok (.istore_n 1, 1) := by decide +kernel
theorem dX12_bits_2 : decode cX12_bits 2 = .ok (.iconst 0, 1) := by decide +kernel
theorem dX12_bits_3 : decode cX12_bits 3 = .ok (.istore_n 2, 1) := by decide +kernel
theorem dX12_bits_4 : decode cX12_bits 4 = .ok (.iload_n 2, 1) := by decide +kernel
theorem dX12_bits_5 : decode cX12_bits 5 = .ok (.bipush 7, 2) := by decide +kernel
theorem dX12_bits_7 : decode cX12_bits 7 = .ok (.if_icmp .ge 17, 3) := by decide +kernel
theorem dX12_bits_10 : decode cX12_bits 10 = .ok (.iload_n 1, 1) := by decide +kernel
theorem dX12_bits_11 : decode cX12_bits 11 = .ok (.iload_n 0, 1) := by decide +kernel
theorem dX12_bits_12 : decode cX12_bits 12 = .ok (.iload_n 2, 1) := by decide +kernel
theorem dX12_bits_13 : decode cX12_bits 13 = .ok (.ishr, 1) := by decide +kernel
theorem dX12_bits_14 : decode cX12_bits 14 = .ok (.iconst 1, 1) := by decide +kernel
theorem dX12_bits_15 : decode cX12_bits 15 = .ok (.iand, 1) := by decide +kernel
theorem dX12_bits_16 : decode cX12_bits 16 = .ok (.iadd, 1) := by decide +kernel
theorem dX12_bits_17 : decode cX12_bits 17 = .ok (.istore_n 1, 1) := by decide +kernel
theorem dX12_bits_18 : decode cX12_bits 18 = .ok (.iinc 2 1, 3) := by decide +kernel
theorem dX12_bits_21 : decode cX12_bits 21 = .ok (.goto (-17), 3) := by decide +kernel
theorem dX12_bits_24 : decode cX12_bits 24 = .ok (.iload_n 1, 1) := by decide +kernel
theorem dX12_bits_25 : decode cX12_bits 25 = .ok (.ireturn, 1) := by decide +kernel
def g_X12_bits_4 (h : zH)   : Nat → Int32 → Int32 → Int32 → Option Int32
  | 0, _, _, _ => none
  | n + 1, x0, x1, x2 => if 7 ≤ x2 then (some x1) else (zlet (x1 + ((x0 >>> (x2 &&& 31)) &&& 1)) fun v_2 => g_X12_bits_4 h n x0 v_2 (x2 + 1))
def g_X12_bits (h : zH) (x0 : Int32) : Option Int32 := g_X12_bits_4 h zfu x0 0 0
set_option maxRecDepth 100000 in
set_option maxHeartbeats 4000000 in
theorem b_X12_bits_4 {K : zK} {G : zG} (hK : zC K G cX12_bits RX12 3 0 0 (some .int)) {h : zH} {r : Int32} (hE : zE K G (some (.int r)) h) : ∀ (n : Nat) (x0 : Int32) (x1 : Int32) (x2 : Int32), g_X12_bits_4 h n x0 x1 x2 = some r → zW K G 3 4 [(0, .int x0), (1, .int x1), (2, .int x2)] [] h := by
  intro n
  induction n with
  | zero => intro x0 x1 x2 hg; exact nomatch (show none = some r from hg)
  | succ n ih =>
    intro x0 x1 x2 hg
    rw [g_X12_bits_4] at hg
    refine z_iload_n (pc := 4) hK 2 dX12_bits_4 rfl (z_bipush (pc := 5) hK dX12_bits_5 zc_b7 (z_icmp_ge (pc := 7) hK 24 dX12_bits_7 (by decide) (fun c_1 => ?_) (fun c_1 => ?_)))
    · rw [if_pos c_1] at hg
      exact z_iload_n (pc := 24) hK 1 dX12_bits_24 rfl (z_iretP (pc := 25) hK hE hg dX12_bits_25)
    · rw [if_neg c_1] at hg
      obtain ⟨v_2, ev_2, hg⟩ := zlet_some hg
      exact z_iload_n (pc := 10) hK 1 dX12_bits_10 rfl (z_iload_n (pc := 11) hK 0 dX12_bits_11 rfl (z_iload_n (pc := 12) hK 2 dX12_bits_12 rfl (z_ishr (pc := 13) hK dX12_bits_13 (z_iconst (pc := 14) hK dX12_bits_14 zc_i1 (z_iand (pc := 15) hK dX12_bits_15 (z_iadd (pc := 16) hK dX12_bits_16 (z_nameI ev_2 (z_istore_n (pc := 17) hK (lv' := [(1, .int v_2), (0, .int x0), (2, .int x2)]) dX12_bits_17 (by decide) rfl (z_iinc (pc := 18) hK 2 (lv' := [(2, .int (x2 + 1)), (1, .int v_2), (0, .int x0)]) dX12_bits_18 rfl (zc_n1 _) (by decide) rfl (z_goto (pc := 21) hK 4 dX12_bits_21 (by decide) (zsub (lv' := [(0, .int x0), (1, .int v_2), (2, .int (x2 + 1))]) [2, 1, 0] rfl (ih x0 v_2 (x2 + 1) hg))))))))))))
set_option maxRecDepth 100000 in
set_option maxHeartbeats 4000000 in
theorem b_X12_bits {K : zK} {G : zG} (hK : zC K G cX12_bits RX12 3 0 0 (some .int)) {h : zH} {x0 : Int32}  {r : Int32} (hE : zE K G (some (.int r)) h) (hg : g_X12_bits h x0 = some r) : zW K G 3 0 [(0, .int x0)] [] h := by
  rw [g_X12_bits] at hg
  exact z_iconst (pc := 0) hK dX12_bits_0 zc_i0 (z_istore_n (pc := 1) hK (lv' := [(1, .int 0), (0, .int x0)]) dX12_bits_1 (by decide) rfl (z_iconst (pc := 2) hK dX12_bits_2 zc_i0 (z_istore_n (pc := 3) hK (lv' := [(2, .int 0), (1, .int 0), (0, .int x0)]) dX12_bits_3 (by decide) rfl (zsub (lv' := [(0, .int x0), (1, .int 0), (2, .int 0)]) [2, 1, 0] rfl (b_X12_bits_4 hK hE zfu x0 0 0 hg)))))
theorem m_X12_bits {l : Launch} {G : zG} (hG : zD G) {h : zH} {x0 : Int32}  {r : Int32} (hg : g_X12_bits h x0 = some r) : zM l G yX12_bits cX12_bits 3 (some .int) 0 0 [.int x0] h (some (.int r)) h :=
  zM_of hG pn_X12 (Nat.le_of_ble_eq_true rfl) (fun K _ hK hE => b_X12_bits hK  hE hg)
theorem dX12_governsBy_0 : decode cX12_governsBy 0 = .ok (.aload_n 0, 1) := by decide +kernel
theorem dX12_governsBy_1 : decode cX12_governsBy 1 = .ok (.getfield 120, 3) := by decide +kernel
theorem dX12_governsBy_4 : decode cX12_governsBy 4 = .ok (.iload_n 2, 1) := by decide +kernel
theorem dX12_governsBy_5 : decode cX12_governsBy 5 = .ok (.iload_n 1, 1) := by decide +kernel
theorem dX12_governsBy_6 : decode cX12_governsBy 6 = .ok (.invokestatic 449, 3) := by decide +kernel
theorem dX12_governsBy_9 : decode cX12_governsBy 9 = .ok (.iastore, 1) := by decide +kernel
theorem dX12_governsBy_10 : decode cX12_governsBy 10 = .ok (.aload_n 0, 1) := by decide +kernel
theorem dX12_governsBy_11 : decode cX12_governsBy 11 = .ok (.invokevirtual 379, 3) := by decide +kernel
theorem dX12_governsBy_14 : decode cX12_governsBy 14 = .ok (.iload_n 3, 1) := by decide +kernel
theorem dX12_governsBy_15 : decode cX12_governsBy 15 = .ok (.if_icmp .ne 7, 3) := by decide +kernel
theorem dX12_governsBy_18 : decode cX12_governsBy 18 = .ok (.iconst 1, 1) := by decide +kernel
theorem dX12_governsBy_19 : decode cX12_governsBy 19 = .ok (.goto 4, 3) := by decide +kernel
theorem dX12_governsBy_22 : decode cX12_governsBy 22 = .ok (.iconst 0, 1) := by decide +kernel
theorem dX12_governsBy_23 : decode cX12_governsBy 23 = .ok (.istore 4, 2) := by decide +kernel
theorem dX12_governsBy_25 : decode cX12_governsBy 25 = .ok (.aload_n 0, 1) := by decide +kernel
theorem dX12_governsBy_26 : decode cX12_governsBy 26 = .ok (.getfield 120, 3) := by decide +kernel
theorem dX12_governsBy_29 : decode cX12_governsBy 29 = .ok (.iload_n 2, 1) := by decide +kernel
theorem dX12_governsBy_30 : decode cX12_governsBy 30 = .ok (.iconst 0, 1) := by decide +kernel
theorem dX12_governsBy_31 : decode cX12_governsBy 31 = .ok (.iastore, 1) := by decide +kernel
theorem dX12_governsBy_32 : decode cX12_governsBy 32 = .ok (.iload 4, 2) := by decide +kernel
theorem dX12_governsBy_34 : decode cX12_governsBy 34 = .ok (.ireturn, 1) := by decide +kernel
def g_X12_governsBy_23 (t0 : Nat)  (x2 : Int32) (s0 : Int32) (h : zH) : Option (Bool × zH) := zgu (zin x2 7) <| zlet (zpi h (zR t0 50) (zx x2) 0) fun h_7 => zgu (zbit s0) <| some ((s0 == 1), h_7)
def g_X12_governsBy (h : zH) (t0 : Nat) (x1 : Int32) (x2 : Int32) (x3 : Int32) : Option (Bool × zH) := (g_X12_bits h x1).bind fun v_1 => zgu (zin x2 7) <| zlet (zpi h (zR t0 50) (zx x2) v_1) fun h_3 => (g_X12_governor h_3 t0).bind fun v_4 => if v_4 = x3 then (g_X12_governsBy_23 t0 x2 1 h_3) else (g_X12_governsBy_23 t0 x2 0 h_3)
set_option maxRecDepth 100000 in
set_option maxHeartbeats 4000000 in
theorem b_X12_governsBy_23 {K : zK} {G : zG} (hK : zC K G cX12_governsBy RX12 5 4 90 (some .boolean)) {t0 : Nat} (ht0 : zT t0 = (11, 0)) {r : Bool × zH} (hE : zE K G (some (.int (zb r.1))) r.2) (x2 : Int32) (s0 : Int32) (h : zH) (hg : g_X12_governsBy_23 t0 x2 s0 h = some r) : zW K G 5 23 [(0, .ref (G.2.2.2 t0)), (2, .int x2)] [.int s0] h := by
  rw [g_X12_governsBy_23] at hg
  obtain ⟨c_6, hg⟩ := zgu_some hg
  obtain ⟨h_7, eh_7, hg⟩ := zlet_some hg
  obtain ⟨c_8, hg⟩ := zgu_some hg
  exact z_istore (pc := 23) hK (lv' := [(4, .int s0), (0, .ref (G.2.2.2 t0)), (2, .int x2)]) dX12_governsBy_23 (by decide) rfl (z_aload_n (pc := 25) hK 1 dX12_governsBy_25 rfl (z_getR (pc := 26) hK f_X12_120_11 ht0 dX12_governsBy_26 (z_iload_n (pc := 29) hK 2 dX12_governsBy_29 rfl (z_iconst (pc := 30) hK dX12_governsBy_30 zc_i0 (z_iast (pc := 31) hK (zt_11_50 ht0) c_6 dX12_governsBy_31 (z_nameH eh_7 (z_iload (pc := 32) hK 0 dX12_governsBy_32 rfl (z_zretE (pc := 34) hK (zbit_eq c_8) hE hg dX12_governsBy_34))))))))
set_option maxRecDepth 100000 in
set_option maxHeartbeats 4000000 in
theorem b_X12_governsBy {K : zK} {G : zG} (hK : zC K G cX12_governsBy RX12 5 4 90 (some .boolean)) {h : zH} {t0 : Nat} {x1 : Int32} {x2 : Int32} {x3 : Int32} (ht0 : zT t0 = (11, 0)) {r : Bool × zH} (hE : zE K G (some (.int (zb r.1))) r.2) (hg : g_X12_governsBy h t0 x1 x2 x3 = some r) : zW K G 5 0 [(0, .ref (G.2.2.2 t0)), (1, .int x1), (2, .int x2), (3, .int x3)] [] h := by
  rw [g_X12_governsBy] at hg
  obtain ⟨v_1, qv_1, hg⟩ := zbind_some hg
  obtain ⟨c_2, hg⟩ := zgu_some hg
  obtain ⟨h_3, eh_3, hg⟩ := zlet_some hg
  obtain ⟨v_4, qv_4, hg⟩ := zbind_some hg
  refine z_aload_n (pc := 0) hK 0 dX12_governsBy_0 rfl (z_getR (pc := 1) hK f_X12_120_11 ht0 dX12_governsBy_1 (z_iload_n (pc := 4) hK 2 dX12_governsBy_4 rfl (z_iload_n (pc := 5) hK 1 dX12_governsBy_5 rfl (z_callSi (pc := 6) hK [.int x1] (m_X12_bits (zC_D hK) qv_1) ss_X12_bits q_1841 rfl [.int x2, .ref (G.2.2.2 (zR t0 50))] rfl (Nat.le_of_ble_eq_true rfl) ⟨by decide, by decide⟩ dX12_governsBy_6 (z_iast (pc := 9) hK (zt_11_50 ht0) c_2 dX12_governsBy_9 (z_nameH eh_3 (z_aload_n (pc := 10) hK 0 dX12_governsBy_10 rfl (z_callVi (pc := 11) hK [] (m_X12_governor (zC_D hK) ht0 qv_4) sv_X12_governor q_1652 ht0 rfl [] rfl (Nat.le_of_ble_eq_true rfl) ⟨by decide, by decide⟩ dX12_governsBy_11 (z_iload_n (pc := 14) hK 3 dX12_governsBy_14 rfl (z_icmp_ne (pc := 15) hK 22 dX12_governsBy_15 (by decide) (fun c_5 => ?_) (fun c_5 => ?_)))))))))))
  · rw [if_neg c_5] at hg
    exact z_iconst (pc := 22) hK dX12_governsBy_22 zc_i0 (zsub (lv' := [(0, .ref (G.2.2.2 t0)), (2, .int x2)]) [0, 2] rfl (b_X12_governsBy_23 hK ht0 hE x2 0 h_3 hg))
  · rw [if_pos c_5] at hg
    exact z_iconst (pc := 18) hK dX12_governsBy_18 zc_i1 (z_goto (pc := 19) hK 23 dX12_governsBy_19 (by decide) (zsub (lv' := [(0, .ref (G.2.2.2 t0)), (2, .int x2)]) [0, 2] rfl (b_X12_governsBy_23 hK ht0 hE x2 1 h_3 hg)))
theorem m_X12_governsBy {l : Launch} {G : zG} (hG : zD G) {h : zH} {t0 : Nat} {x1 : Int32} {x2 : Int32} {x3 : Int32} (ht0 : zT t0 = (11, 0)) {r : Bool × zH} (hg : g_X12_governsBy h t0 x1 x2 x3 = some r) : zM l G yX12_governsBy cX12_governsBy 5 (some .boolean) 4 90 [.ref (G.2.2.2 t0), .int x1, .int x2, .int x3] h (some (.int (zb r.1))) r.2 :=
  zM_of hG pn_X12 (Nat.le_of_ble_eq_true rfl) (fun K _ hK hE => b_X12_governsBy hK ht0 hE hg)
theorem dX12_voters_0 : decode cX12_voters 0 = .ok (.iconst 0, 1) := by decide +kernel
theorem dX12_voters_1 : decode cX12_voters 1 = .ok (.istore_n 1, 1) := by decide +kernel
theorem dX12_voters_2 : decode cX12_voters 2 = .ok (.iconst 0, 1) := by decide +kernel
theorem dX12_voters_3 : decode cX12_voters 3 = .ok (.istore_n 2, 1) := by decide +kernel
theorem dX12_voters_4 : decode cX12_voters 4 = .ok (.iload_n 2, 1) := by decide +kernel
theorem dX12_voters_5 : decode cX12_voters 5 = .ok (.aload_n 0, 1) := by decide +kernel
theorem dX12_voters_6 : decode cX12_voters 6 = .ok (.getfield 13, 3) := by decide +kernel
theorem dX12_voters_9 : decode cX12_voters 9 = .ok (.iconst 0, 1) := by decide +kernel
theorem dX12_voters_10 : decode cX12_voters 10 = .ok (.iaload, 1) := by decide +kernel
theorem dX12_voters_11 : decode cX12_voters 11 = .ok (.if_icmp .ge 38, 3) := by decide +kernel
theorem dX12_voters_14 : decode cX12_voters 14 = .ok (.iload_n 1, 1) := by decide +kernel
theorem dX12_voters_15 : decode cX12_voters 15 = .ok (.aload_n 0, 1) := by decide +kernel
theorem dX12_voters_16 : decode cX12_voters 16 = .ok (.iload_n 2, 1) := by decide +kernel
theorem dX12_voters_17 : decode cX12_voters 17 = .ok (.invokevirtual 350, 3) := by decide +kernel
theorem dX12_voters_20 : decode cX12_voters 20 = .ok (.ifCond .eq 20, 3) := by decide +kernel
theorem dX12_voters_23 : decode cX12_voters 23 = .ok (.aload_n 0, 1) := by decide +kernel
theorem dX12_voters_24 : decode cX12_voters 24 = .ok (.getfield 105, 3) := by decide +kernel
theorem dX12_voters_27 : decode cX12_voters 27 = .ok (.iconst 2, 1) := by decide +kernel
theorem dX12_voters_28 : decode cX12_voters 28 = .ok (.iload_n 2, 1) := by decide +kernel
theorem dX12_voters_29 : decode cX12_voters 29 = .ok (.iadd, 1) := by decide +kernel
theorem dX12_voters_30 : decode cX12_voters 30 = .ok (.iaload, 1) := by decide +kernel
theorem dX12_voters_31 : decode cX12_voters 31 = .ok (.ifCond .le 9, 3) := by decide +kernel
theorem dX12_voters_34 : decode cX12_voters 34 = .ok (.iconst 1, 1) := by decide +kernel
theorem dX12_voters_35 : decode cX12_voters 35 = .ok (.iload_n 2, 1) := by decide +kernel
theorem dX12_voters_36 : decode cX12_voters 36 = .ok (.ishl, 1) := by decide +kernel
theorem dX12_voters_37 : decode cX12_voters 37 = .ok (.goto 4, 3) := by decide +kernel
theorem dX12_voters_40 : decode cX12_voters 40 = .ok (.iconst 0, 1) := by decide +kernel
theorem dX12_voters_41 : decode cX12_voters 41 = .ok (.ior, 1) := by decide +kernel
theorem dX12_voters_42 : decode cX12_voters 42 = .ok (.istore_n 1, 1) := by decide +kernel
theorem dX12_voters_43 : decode cX12_voters 43 = .ok (.iinc 2 1, 3) := by decide +kernel
theorem dX12_voters_46 : decode cX12_voters 46 = .ok (.goto (-42), 3) := by decide +kernel
theorem dX12_voters_49 : decode cX12_voters 49 = .ok (.iload_n 1, 1) := by decide +kernel
theorem dX12_voters_50 : decode cX12_voters 50 = .ok (.ireturn, 1) := by decide +kernel
def g_X12_voters_4 (h : zH) (t0 : Nat)  : Nat → Int32 → Int32 → Option Int32
  | 0, _, _ => none
  | n + 1, x1, x2 => zgu (zin 0 8) <| if (h.1 (zR t0 10) (zx 0)) ≤ x2 then (some x1) else ((g_X12_isAlive h t0 x2).bind fun v_3 => if (zb v_3) = 0 then (g_X12_voters_4 h t0 n (x1 ||| 0) (x2 + 1)) else (zgu (zin (2 + x2) 107) <| if (h.1 (zR t0 44) (zx (2 + x2))) ≤ 0 then (g_X12_voters_4 h t0 n (x1 ||| 0) (x2 + 1)) else (zlet (x1 ||| ((1 : Int32) <<< (x2 &&& 31))) fun v_7 => g_X12_voters_4 h t0 n v_7 (x2 + 1))))
def g_X12_voters (h : zH) (t0 : Nat) : Option Int32 := g_X12_voters_4 h t0 zfu 0 0
set_option maxRecDepth 100000 in
set_option maxHeartbeats 4000000 in
theorem b_X12_voters_4 {K : zK} {G : zG} (hK : zC K G cX12_voters RX12 3 1 21 (some .int)) {h : zH} {t0 : Nat} (ht0 : zT t0 = (11, 0)) {r : Int32} (hE : zE K G (some (.int r)) h) : ∀ (n : Nat) (x1 : Int32) (x2 : Int32), g_X12_voters_4 h t0 n x1 x2 = some r → zW K G 3 4 [(0, .ref (G.2.2.2 t0)), (1, .int x1), (2, .int x2)] [] h := by
  intro n
  induction n with
  | zero => intro x1 x2 hg; exact nomatch (show none = some r from hg)
  | succ n ih =>
    intro x1 x2 hg
    rw [g_X12_voters_4] at hg
    obtain ⟨c_1, hg⟩ := zgu_some hg
    refine z_iload_n (pc := 4) hK 2 dX12_voters_4 rfl (z_aload_n (pc := 5) hK 0 dX12_voters_5 rfl (z_getR (pc := 6) hK f_X12_13_11 ht0 dX12_voters_6 (z_iconst (pc := 9) hK dX12_voters_9 zc_i0 (z_iald (pc := 10) hK (zt_11_10 ht0) c_1 dX12_voters_10 (z_icmp_ge (pc := 11) hK 49 dX12_voters_11 (by decide) (fun c_2 => ?_) (fun c_2 => ?_))))))
    · rw [if_pos c_2] at hg
      exact z_iload_n (pc := 49) hK 1 dX12_voters_49 rfl (z_iretP (pc := 50) hK hE hg dX12_voters_50)
    · rw [if_neg c_2] at hg
      obtain ⟨v_3, qv_3, hg⟩ := zbind_some hg
      refine z_iload_n (pc := 14) hK 1 dX12_voters_14 rfl (z_aload_n (pc := 15) hK 0 dX12_voters_15 rfl (z_iload_n (pc := 16) hK 2 dX12_voters_16 rfl (z_callVi (pc := 17) hK [.int x2] (m_X12_isAlive (zC_D hK) ht0 qv_3) sv_X12_isAlive q_1628 ht0 rfl [.int x1] rfl (Nat.le_of_ble_eq_true rfl) ⟨by decide, by decide⟩ dX12_voters_17 (z_if_eq (pc := 20) hK 40 dX12_voters_20 (by decide) (fun c_4 => ?_) (fun c_4 => ?_)))))
      · rw [if_pos c_4] at hg
        exact z_iconst (pc := 40) hK dX12_voters_40 zc_i0 (z_ior (pc := 41) hK dX12_voters_41 (z_istore_n (pc := 42) hK (lv' := [(1, .int (x1 ||| 0)), (0, .ref (G.2.2.2 t0)), (2, .int x2)]) dX12_voters_42 (by decide) rfl (z_iinc (pc := 43) hK 2 (lv' := [(2, .int (x2 + 1)), (1, .int (x1 ||| 0)), (0, .ref (G.2.2.2 t0))]) dX12_voters_43 rfl (zc_n1 _) (by decide) rfl (z_goto (pc := 46) hK 4 dX12_voters_46 (by decide) (zsub (lv' := [(0, .ref (G.2.2.2 t0)), (1, .int (x1 ||| 0)), (2, .int (x2 + 1))]) [2, 1, 0] rfl (ih (x1 ||| 0) (x2 + 1) hg))))))
      · rw [if_neg c_4] at hg
        obtain ⟨c_5, hg⟩ := zgu_some hg
        refine z_aload_n (pc := 23) hK 0 dX12_voters_23 rfl (z_getR (pc := 24) hK f_X12_105_11 ht0 dX12_voters_24 (z_iconst (pc := 27) hK dX12_voters_27 zc_i2 (z_iload_n (pc := 28) hK 2 dX12_voters_28 rfl (z_iadd (pc := 29) hK dX12_voters_29 (z_iald (pc := 30) hK (zt_11_44 ht0) c_5 dX12_voters_30 (z_if_le (pc := 31) hK 40 dX12_voters_31 (by decide) (fun c_6 => ?_) (fun c_6 => ?_)))))))
        · rw [if_pos c_6] at hg
          exact z_iconst (pc := 40) hK dX12_voters_40 zc_i0 (z_ior (pc := 41) hK dX12_voters_41 (z_istore_n (pc := 42) hK (lv' := [(1, .int (x1 ||| 0)), (0, .ref (G.2.2.2 t0)), (2, .int x2)]) dX12_voters_42 (by decide) rfl (z_iinc (pc := 43) hK 2 (lv' := [(2, .int (x2 + 1)), (1, .int (x1 ||| 0)), (0, .ref (G.2.2.2 t0))]) dX12_voters_43 rfl (zc_n1 _) (by decide) rfl (z_goto (pc := 46) hK 4 dX12_voters_46 (by decide) (zsub (lv' := [(0, .ref (G.2.2.2 t0)), (1, .int (x1 ||| 0)), (2, .int (x2 + 1))]) [2, 1, 0] rfl (ih (x1 ||| 0) (x2 + 1) hg))))))
        · rw [if_neg c_6] at hg
          obtain ⟨v_7, ev_7, hg⟩ := zlet_some hg
          exact z_iconst (pc := 34) hK dX12_voters_34 zc_i1 (z_iload_n (pc := 35) hK 2 dX12_voters_35 rfl (z_ishl (pc := 36) hK dX12_voters_36 (z_goto (pc := 37) hK 41 dX12_voters_37 (by decide) (z_ior (pc := 41) hK dX12_voters_41 (z_nameI ev_7 (z_istore_n (pc := 42) hK (lv' := [(1, .int v_7), (0, .ref (G.2.2.2 t0)), (2, .int x2)]) dX12_voters_42 (by decide) rfl (z_iinc (pc := 43) hK 2 (lv' := [(2, .int (x2 + 1)), (1, .int v_7), (0, .ref (G.2.2.2 t0))]) dX12_voters_43 rfl (zc_n1 _) (by decide) rfl (z_goto (pc := 46) hK 4 dX12_voters_46 (by decide) (zsub (lv' := [(0, .ref (G.2.2.2 t0)), (1, .int v_7), (2, .int (x2 + 1))]) [2, 1, 0] rfl (ih v_7 (x2 + 1) hg))))))))))
set_option maxRecDepth 100000 in
set_option maxHeartbeats 4000000 in
theorem b_X12_voters {K : zK} {G : zG} (hK : zC K G cX12_voters RX12 3 1 21 (some .int)) {h : zH} {t0 : Nat} (ht0 : zT t0 = (11, 0)) {r : Int32} (hE : zE K G (some (.int r)) h) (hg : g_X12_voters h t0 = some r) : zW K G 3 0 [(0, .ref (G.2.2.2 t0))] [] h := by
  rw [g_X12_voters] at hg
  exact z_iconst (pc := 0) hK dX12_voters_0 zc_i0 (z_istore_n (pc := 1) hK (lv' := [(1, .int 0), (0, .ref (G.2.2.2 t0))]) dX12_voters_1 (by decide) rfl (z_iconst (pc := 2) hK dX12_voters_2 zc_i0 (z_istore_n (pc := 3) hK (lv' := [(2, .int 0), (1, .int 0), (0, .ref (G.2.2.2 t0))]) dX12_voters_3 (by decide) rfl (zsub (lv' := [(0, .ref (G.2.2.2 t0)), (1, .int 0), (2, .int 0)]) [2, 1, 0] rfl (b_X12_voters_4 hK ht0 hE zfu 0 0 hg)))))
theorem m_X12_voters {l : Launch} {G : zG} (hG : zD G) {h : zH} {t0 : Nat} (ht0 : zT t0 = (11, 0)) {r : Int32} (hg : g_X12_voters h t0 = some r) : zM l G yX12_voters cX12_voters 3 (some .int) 1 21 [.ref (G.2.2.2 t0)] h (some (.int r)) h :=
  zM_of hG pn_X12 (Nat.le_of_ble_eq_true rfl) (fun K _ hK hE => b_X12_voters hK ht0 hE hg)
theorem dX12_sets_0 : decode cX12_sets 0 = .ok (.aload_n 0, 1) := by decide +kernel
theorem dX12_sets_1 : decode cX12_sets 1 = .ok (.iconst 0, 1) := by decide +kernel
theorem dX12_sets_2 : decode cX12_sets 2 = .ok (.putfield 126, 3) := by decide +kernel
theorem dX12_sets_5 : decode cX12_sets 5 = .ok (.aload_n 0, 1) := by decide +kernel
theorem dX12_sets_6 : decode cX12_sets 6 = .ok (.iload_n 1, 1) := by decide +kernel
theorem dX12_sets_7 : decode cX12_sets 7 = .ok (.iload_n 2, 1) := by decide +kernel
theorem dX12_sets_8 : decode cX12_sets 8 = .ok (.invokevirtual 416, 3) := by decide +kernel
theorem dX12_sets_11 : decode cX12_sets 11 = .ok (.ifCond .eq 12, 3) := by decide +kernel
theorem dX12_sets_14 : decode cX12_sets 14 = .ok (.iload_n 3, 1) := by decide +kernel
theorem dX12_sets_15 : decode cX12_sets 15 = .ok (.iconst 0, 1) := by decide +kernel
theorem dX12_sets_16 : decode cX12_sets 16 = .ok (.iconst 2, 1) := by decide +kernel
theorem dX12_sets_17 : decode cX12_sets 17 = .ok (.invokestatic 259, 3) := by decide +kernel
theorem dX12_sets_20 : decode cX12_sets 20 = .ok (.ifCond .ne 5, 3) := by decide +kernel
theorem dX12_sets_23 : decode cX12_sets 23 = .ok (.iconst (-1), 1) := by decide +kernel
theorem dX12_sets_24 : decode cX12_sets 24 = .ok (.ireturn, 1) := by decide +kernel
theorem dX12_sets_25 : decode cX12_sets 25 = .ok (.aload_n 0, 1) := by decide +kernel
theorem dX12_sets_26 : decode cX12_sets 26 = .ok (.invokevirtual 452, 3) := by decide +kernel
theorem dX12_sets_29 : decode cX12_sets 29 = .ok (.iconst 1, 1) := by decide +kernel
theorem dX12_sets_30 : decode cX12_sets 30 = .ok (.iload_n 1, 1) := by decide +kernel
theorem dX12_sets_31 : decode cX12_sets 31 = .ok (.ishl, 1) := by decide +kernel
theorem dX12_sets_32 : decode cX12_sets 32 = .ok (.iconst 1, 1) := by decide +kernel
theorem dX12_sets_33 : decode cX12_sets 33 = .ok (.iload_n 2, 1) := by decide +kernel
theorem dX12_sets_34 : decode cX12_sets 34 = .ok (.ishl, 1) := by decide +kernel
theorem dX12_sets_35 : decode cX12_sets 35 = .ok (.ior, 1) := by decide +kernel
theorem dX12_sets_36 : decode cX12_sets 36 = .ok (.iconst (-1), 1) := by decide +kernel
theorem dX12_sets_37 : decode cX12_sets 37 = .ok (.ixor, 1) := by decide +kernel
theorem dX12_sets_38 : decode cX12_sets 38 = .ok (.iand, 1) := by decide +kernel
theorem dX12_sets_39 : decode cX12_sets 39 = .ok (.istore 4, 2) := by decide +kernel
theorem dX12_sets_41 : decode cX12_sets 41 = .ok (.iconst 0, 1) := by decide +kernel
theorem dX12_sets_42 : decode cX12_sets 42 = .ok (.istore 5, 2) := by decide +kernel
theorem dX12_sets_44 : decode cX12_sets 44 = .ok (.iload 4, 2) := by decide +kernel
theorem dX12_sets_46 : decode cX12_sets 46 = .ok (.istore 6, 2) := by decide +kernel
theorem dX12_sets_48 : decode cX12_sets 48 = .ok (.iconst 0, 1) := by decide +kernel
theorem dX12_sets_49 : decode cX12_sets 49 = .ok (.istore 7, 2) := by decide +kernel
theorem dX12_sets_51 : decode cX12_sets 51 = .ok (.iconst 0, 1) := by decide +kernel
theorem dX12_sets_52 : decode cX12_sets 52 = .ok (.istore 8, 2) := by decide +kernel
theorem dX12_sets_54 : decode cX12_sets 54 = .ok (.iload 8, 2) := by decide +kernel
theorem dX12_sets_56 : decode cX12_sets 56 = .ok (.iload 4, 2) := by decide +kernel
theorem dX12_sets_58 : decode cX12_sets 58 = .ok (.if_icmp .gt 50, 3) := by decide +kernel
theorem dX12_sets_61 : decode cX12_sets 61 = .ok (.iload 8, 2) := by decide +kernel
theorem dX12_sets_63 : decode cX12_sets 63 = .ok (.iload 4, 2) := by decide +kernel
theorem dX12_sets_65 : decode cX12_sets 65 = .ok (.iconst (-1), 1) := by decide +kernel
theorem dX12_sets_66 : decode cX12_sets 66 = .ok (.ixor, 1) := by decide +kernel
theorem dX12_sets_67 : decode cX12_sets 67 = .ok (.iand, 1) := by decide +kernel
theorem dX12_sets_68 : decode cX12_sets 68 = .ok (.ifCond .ne 34, 3) := by decide +kernel
theorem dX12_sets_71 : decode cX12_sets 71 = .ok (.aload_n 0, 1) := by decide +kernel
theorem dX12_sets_72 : decode cX12_sets 72 = .ok (.iload 8, 2) := by decide +kernel
theorem dX12_sets_74 : decode cX12_sets 74 = .ok (.iload_n 1, 1) := by decide +kernel
theorem dX12_sets_75 : decode cX12_sets 75 = .ok (.iload_n 2, 1) := by decide +kernel
theorem dX12_sets_76 : decode cX12_sets 76 = .ok (.invokevirtual 455, 3) := by decide +kernel
theorem dX12_sets_79 : decode cX12_sets 79 = .ok (.ifCond .ne 6, 3) := by decide +kernel
theorem dX12_sets_82 : decode cX12_sets 82 = .ok (.goto 20, 3) := by decide +kernel
theorem dX12_sets_85 : decode cX12_sets 85 = .ok (.iinc 5 1, 3) := by decide +kernel
theorem dX12_sets_88 : decode cX12_sets 88 = .ok (.iload 6, 2) := by decide +kernel
theorem dX12_sets_90 : decode cX12_sets 90 = .ok (.iload 8, 2) := by decide +kernel
theorem dX12_sets_92 : decode cX12_sets 92 = .ok (.iand, 1) := by decide +kernel
theorem dX12_sets_93 : decode cX12_sets 93 = .ok (.istore 6, 2) := by decide +kernel
theorem dX12_sets_95 : decode cX12_sets 95 = .ok (.iload 7, 2) := by decide +kernel
theorem dX12_sets_97 : decode cX12_sets 97 = .ok (.iload 8, 2) := by decide +kernel
theorem dX12_sets_99 : decode cX12_sets 99 = .ok (.ior, 1) := by decide +kernel
theorem dX12_sets_100 : decode cX12_sets 100 = .ok (.istore 7, 2) := by decide +kernel
theorem dX12_sets_102 : decode cX12_sets 102 = .ok (.iinc 8 1, 3) := by decide +kernel
theorem dX12_sets_105 : decode cX12_sets 105 = .ok (.goto (-51), 3) := by decide +kernel
theorem dX12_sets_108 : decode cX12_sets 108 = .ok (.iload 5, 2) := by decide +kernel
theorem dX12_sets_110 : decode cX12_sets 110 = .ok (.ifCond .eq 7, 3) := by decide +kernel
theorem dX12_sets_113 : decode cX12_sets 113 = .ok (.iload_n 3, 1) := by decide +kernel
theorem dX12_sets_114 : decode cX12_sets 114 = .ok (.ifCond .ne 14, 3) := by decide +kernel
theorem dX12_sets_117 : decode cX12_sets 117 = .ok (.iload_n 3, 1) := by decide +kernel
theorem dX12_sets_118 : decode cX12_sets 118 = .ok (.ifCond .ne 8, 3) := by decide +kernel
theorem dX12_sets_121 : decode cX12_sets 121 = .ok (.iload 5, 2) := by decide +kernel
theorem dX12_sets_123 : decode cX12_sets 123 = .ok (.goto 4, 3) := by decide +kernel
theorem dX12_sets_126 : decode cX12_sets 126 = .ok (.iconst (-1), 1) := by decide +kernel
theorem dX12_sets_127 : decode cX12_sets 127 = .ok (.ireturn, 1) := by decide +kernel
theorem dX12_sets_128 : decode cX12_sets 128 = .ok (.iload_n 3, 1) := by decide +kernel
theorem dX12_sets_129 : decode cX12_sets 129 = .ok (.iconst 1, 1) := by decide +kernel
theorem dX12_sets_130 : decode cX12_sets 130 = .ok (.if_icmp .ne 8, 3) := by decide +kernel
theorem dX12_sets_133 : decode cX12_sets 133 = .ok (.iload 6, 2) := by decide +kernel
theorem dX12_sets_135 : decode cX12_sets 135 = .ok (.goto 5, 3) := by decide +kernel
theorem dX12_sets_138 : decode cX12_sets 138 = .ok (.iload 7, 2) := by decide +kernel
theorem dX12_sets_140 : decode cX12_sets 140 = .ok (.ireturn, 1) := by decide +kernel
def g_X12_sets_117 (t0 : Nat)  (x3 : Int32) (x5 : Int32) (h : zH) : Option (Int32 × zH) := if x3 = 0 then (some (x5, h)) else (some ((-1), h))
def g_X12_sets_54 (t0 : Nat)  : Nat → Int32 → Int32 → Int32 → Int32 → Int32 → Int32 → Int32 → Int32 → zH → Option (Int32 × zH)
  | 0, _, _, _, _, _, _, _, _, _ => none
  | n + 1, x1, x2, x3, x4, x5, x6, x7, x8, h => if x4 < x8 then (if x5 = 0 then (g_X12_sets_117 t0 x3 x5 h) else (if x3 = 0 then (g_X12_sets_117 t0 x3 x5 h) else (if x3 = 1 then (some (x6, h)) else (some (x7, h))))) else (if (x8 &&& (x4 ^^^ (-1))) = 0 then ((g_X12_governsBy h t0 x8 x1 x2).bind fun v_13 => if (zb v_13.1) = 0 then (g_X12_sets_54 t0 n x1 x2 x3 x4 x5 x6 x7 (x8 + 1) v_13.2) else (g_X12_sets_54 t0 n x1 x2 x3 x4 (x5 + 1) (x6 &&& x8) (x7 ||| x8) (x8 + 1) v_13.2)) else (g_X12_sets_54 t0 n x1 x2 x3 x4 x5 x6 x7 (x8 + 1) h))
def g_X12_sets (h : zH) (t0 : Nat) (x1 : Int32) (x2 : Int32) (x3 : Int32) : Option (Int32 × zH) := zlet (zpi h t0 0 0) fun h_1 => (g_X12_areAlive h_1 t0 x1 x2).bind fun v_2 => if (zb v_2) = 0 then (some ((-1), h_1)) else ((g_X12_within h_1 x3 0 2).bind fun v_4 => if (zb v_4) = 0 then (some ((-1), h_1)) else ((g_X12_voters h_1 t0).bind fun v_6 => zlet (v_6 &&& ((((1 : Int32) <<< (x1 &&& 31)) ||| ((1 : Int32) <<< (x2 &&& 31))) ^^^ (-1))) fun v_7 => g_X12_sets_54 t0 zfu x1 x2 x3 v_7 0 v_7 0 0 h_1))
set_option maxRecDepth 100000 in
set_option maxHeartbeats 4000000 in
theorem b_X12_sets_117 {K : zK} {G : zG} (hK : zC K G cX12_sets RX12 9 5 114 (some .int)) {t0 : Nat} (ht0 : zT t0 = (11, 0)) {r : Int32 × zH} (hE : zE K G (some (.int r.1)) r.2) (x3 : Int32) (x5 : Int32) (h : zH) (hg : g_X12_sets_117 t0 x3 x5 h = some r) : zW K G 9 117 [(3, .int x3), (5, .int x5)] [] h := by
  rw [g_X12_sets_117] at hg
  refine z_iload_n (pc := 117) hK 0 dX12_sets_117 rfl (z_if_ne (pc := 118) hK 126 dX12_sets_118 (by decide) (fun c_15 => ?_) (fun c_15 => ?_))
  · rw [if_neg c_15] at hg
    exact z_iconst (pc := 126) hK dX12_sets_126 zc_im1 (z_iretE (pc := 127) hK hE hg dX12_sets_127)
  · rw [if_pos c_15] at hg
    exact z_iload (pc := 121) hK 1 dX12_sets_121 rfl (z_goto (pc := 123) hK 127 dX12_sets_123 (by decide) (z_iretE (pc := 127) hK hE hg dX12_sets_127))
set_option maxRecDepth 100000 in
set_option maxHeartbeats 4000000 in
theorem b_X12_sets_54 {K : zK} {G : zG} (hK : zC K G cX12_sets RX12 9 5 114 (some .int)) {t0 : Nat} (ht0 : zT t0 = (11, 0)) {r : Int32 × zH} (hE : zE K G (some (.int r.1)) r.2) : ∀ (n : Nat) (x1 : Int32) (x2 : Int32) (x3 : Int32) (x4 : Int32) (x5 : Int32) (x6 : Int32) (x7 : Int32) (x8 : Int32) (h : zH), g_X12_sets_54 t0 n x1 x2 x3 x4 x5 x6 x7 x8 h = some r → zW K G 9 54 [(0, .ref (G.2.2.2 t0)), (1, .int x1), (2, .int x2), (3, .int x3), (4, .int x4), (5, .int x5), (6, .int x6), (7, .int x7), (8, .int x8)] [] h := by
  intro n
  induction n with
  | zero => intro x1 x2 x3 x4 x5 x6 x7 x8 h hg; exact nomatch (show none = some r from hg)
  | succ n ih =>
    intro x1 x2 x3 x4 x5 x6 x7 x8 h hg
    rw [g_X12_sets_54] at hg
    refine z_iload (pc := 54) hK 8 dX12_sets_54 rfl (z_iload (pc := 56) hK 4 dX12_sets_56 rfl (z_icmp_gt (pc := 58) hK 108 dX12_sets_58 (by decide) (fun c_8 => ?_) (fun c_8 => ?_)))
    · rw [if_pos c_8] at hg
      refine z_iload (pc := 108) hK 5 dX12_sets_108 rfl (z_if_eq (pc := 110) hK 117 dX12_sets_110 (by decide) (fun c_9 => ?_) (fun c_9 => ?_))
      · rw [if_pos c_9] at hg
        exact zsub (lv' := [(3, .int x3), (5, .int x5)]) [3, 5] rfl (b_X12_sets_117 hK ht0 hE x3 x5 h hg)
      · rw [if_neg c_9] at hg
        refine z_iload_n (pc := 113) hK 3 dX12_sets_113 rfl (z_if_ne (pc := 114) hK 128 dX12_sets_114 (by decide) (fun c_10 => ?_) (fun c_10 => ?_))
        · rw [if_neg c_10] at hg
          refine z_iload_n (pc := 128) hK 3 dX12_sets_128 rfl (z_iconst (pc := 129) hK dX12_sets_129 zc_i1 (z_icmp_ne (pc := 130) hK 138 dX12_sets_130 (by decide) (fun c_11 => ?_) (fun c_11 => ?_)))
          · rw [if_neg c_11] at hg
            exact z_iload (pc := 138) hK 7 dX12_sets_138 rfl (z_iretE (pc := 140) hK hE hg dX12_sets_140)
          · rw [if_pos c_11] at hg
            exact z_iload (pc := 133) hK 6 dX12_sets_133 rfl (z_goto (pc := 135) hK 140 dX12_sets_135 (by decide) (z_iretE (pc := 140) hK hE hg dX12_sets_140))
        · rw [if_pos c_10] at hg
          exact zsub (lv' := [(3, .int x3), (5, .int x5)]) [3, 5] rfl (b_X12_sets_117 hK ht0 hE x3 x5 h hg)
    · rw [if_neg c_8] at hg
      refine z_iload (pc := 61) hK 8 dX12_sets_61 rfl (z_iload (pc := 63) hK 4 dX12_sets_63 rfl (z_iconst (pc := 65) hK dX12_sets_65 zc_im1 (z_ixor (pc := 66) hK dX12_sets_66 (z_iand (pc := 67) hK dX12_sets_67 (z_if_ne (pc := 68) hK 102 dX12_sets_68 (by decide) (fun c_12 => ?_) (fun c_12 => ?_))))))
      · rw [if_neg c_12] at hg
        exact z_iinc (pc := 102) hK 8 (lv' := [(8, .int (x8 + 1)), (0, .ref (G.2.2.2 t0)), (1, .int x1), (2, .int x2), (3, .int x3), (4, .int x4), (5, .int x5), (6, .int x6), (7, .int x7)]) dX12_sets_102 rfl (zc_n1 _) (by decide) rfl (z_goto (pc := 105) hK 54 dX12_sets_105 (by decide) (zsub (lv' := [(0, .ref (G.2.2.2 t0)), (1, .int x1), (2, .int x2), (3, .int x3), (4, .int x4), (5, .int x5), (6, .int x6), (7, .int x7), (8, .int (x8 + 1))]) [1, 2, 3, 4, 5, 6, 7, 8, 0] rfl (ih x1 x2 x3 x4 x5 x6 x7 (x8 + 1) h hg)))
      · rw [if_pos c_12] at hg
        obtain ⟨v_13, qv_13, hg⟩ := zbind_some hg
        refine z_aload_n (pc := 71) hK 0 dX12_sets_71 rfl (z_iload (pc := 72) hK 8 dX12_sets_72 rfl (z_iload_n (pc := 74) hK 1 dX12_sets_74 rfl (z_iload_n (pc := 75) hK 2 dX12_sets_75 rfl (z_callVi (pc := 76) hK [.int x8, .int x1, .int x2] (m_X12_governsBy (zC_D hK) ht0 qv_13) sv_X12_governsBy q_1837 ht0 rfl [] rfl (Nat.le_of_ble_eq_true rfl) ⟨by decide, by decide⟩ dX12_sets_76 (z_if_ne (pc := 79) hK 85 dX12_sets_79 (by decide) (fun c_14 => ?_) (fun c_14 => ?_))))))
        · rw [if_neg c_14] at hg
          exact z_iinc (pc := 85) hK 5 (lv' := [(5, .int (x5 + 1)), (0, .ref (G.2.2.2 t0)), (1, .int x1), (2, .int x2), (3, .int x3), (4, .int x4), (6, .int x6), (7, .int x7), (8, .int x8)]) dX12_sets_85 rfl (zc_n1 _) (by decide) rfl (z_iload (pc := 88) hK 6 dX12_sets_88 rfl (z_iload (pc := 90) hK 8 dX12_sets_90 rfl (z_iand (pc := 92) hK dX12_sets_92 (z_istore (pc := 93) hK (lv' := [(6, .int (x6 &&& x8)), (5, .int (x5 + 1)), (0, .ref (G.2.2.2 t0)), (1, .int x1), (2, .int x2), (3, .int x3), (4, .int x4), (7, .int x7), (8, .int x8)]) dX12_sets_93 (by decide) rfl (z_iload (pc := 95) hK 7 dX12_sets_95 rfl (z_iload (pc := 97) hK 8 dX12_sets_97 rfl (z_ior (pc := 99) hK dX12_sets_99 (z_istore (pc := 100) hK (lv' := [(7, .int (x7 ||| x8)), (6, .int (x6 &&& x8)), (5, .int (x5 + 1)), (0, .ref (G.2.2.2 t0)), (1, .int x1), (2, .int x2), (3, .int x3), (4, .int x4), (8, .int x8)]) dX12_sets_100 (by decide) rfl (z_iinc (pc := 102) hK 8 (lv' := [(8, .int (x8 + 1)), (7, .int (x7 ||| x8)), (6, .int (x6 &&& x8)), (5, .int (x5 + 1)), (0, .ref (G.2.2.2 t0)), (1, .int x1), (2, .int x2), (3, .int x3), (4, .int x4)]) dX12_sets_102 rfl (zc_n1 _) (by decide) rfl (z_goto (pc := 105) hK 54 dX12_sets_105 (by decide) (zsub (lv' := [(0, .ref (G.2.2.2 t0)), (1, .int x1), (2, .int x2), (3, .int x3), (4, .int x4), (5, .int (x5 + 1)), (6, .int (x6 &&& x8)), (7, .int (x7 ||| x8)), (8, .int (x8 + 1))]) [4, 5, 6, 7, 8, 3, 2, 1, 0] rfl (ih x1 x2 x3 x4 (x5 + 1) (x6 &&& x8) (x7 ||| x8) (x8 + 1) v_13.2 hg))))))))))))
        · rw [if_pos c_14] at hg
          exact z_goto (pc := 82) hK 102 dX12_sets_82 (by decide) (z_iinc (pc := 102) hK 8 (lv' := [(8, .int (x8 + 1)), (0, .ref (G.2.2.2 t0)), (1, .int x1), (2, .int x2), (3, .int x3), (4, .int x4), (5, .int x5), (6, .int x6), (7, .int x7)]) dX12_sets_102 rfl (zc_n1 _) (by decide) rfl (z_goto (pc := 105) hK 54 dX12_sets_105 (by decide) (zsub (lv' := [(0, .ref (G.2.2.2 t0)), (1, .int x1), (2, .int x2), (3, .int x3), (4, .int x4), (5, .int x5), (6, .int x6), (7, .int x7), (8, .int (x8 + 1))]) [1, 2, 3, 4, 5, 6, 7, 8, 0] rfl (ih x1 x2 x3 x4 x5 x6 x7 (x8 + 1) v_13.2 hg))))
set_option maxRecDepth 100000 in
set_option maxHeartbeats 4000000 in
theorem b_X12_sets {K : zK} {G : zG} (hK : zC K G cX12_sets RX12 9 5 114 (some .int)) {h : zH} {t0 : Nat} {x1 : Int32} {x2 : Int32} {x3 : Int32} (ht0 : zT t0 = (11, 0)) {r : Int32 × zH} (hE : zE K G (some (.int r.1)) r.2) (hg : g_X12_sets h t0 x1 x2 x3 = some r) : zW K G 9 0 [(0, .ref (G.2.2.2 t0)), (1, .int x1), (2, .int x2), (3, .int x3)] [] h := by
  rw [g_X12_sets] at hg
  obtain ⟨h_1, eh_1, hg⟩ := zlet_some hg
  obtain ⟨v_2, qv_2, hg⟩ := zbind_some hg
  refine z_aload_n (pc := 0) hK 0 dX12_sets_0 rfl (z_iconst (pc := 1) hK dX12_sets_1 zc_i0 (z_putI (pc := 2) hK f_X12_126_11 fp_11_0 ht0 dX12_sets_2 (z_nameH eh_1 (z_aload_n (pc := 5) hK 0 dX12_sets_5 rfl (z_iload_n (pc := 6) hK 1 dX12_sets_6 rfl (z_iload_n (pc := 7) hK 2 dX12_sets_7 rfl (z_callVi (pc := 8) hK [.int x1, .int x2] (m_X12_areAlive (zC_D hK) ht0 qv_2) sv_X12_areAlive q_1711 ht0 rfl [] rfl (Nat.le_of_ble_eq_true rfl) ⟨by decide, by decide⟩ dX12_sets_8 (z_if_eq (pc := 11) hK 23 dX12_sets_11 (by decide) (fun c_3 => ?_) (fun c_3 => ?_)))))))))
  · rw [if_pos c_3] at hg
    exact z_iconst (pc := 23) hK dX12_sets_23 zc_im1 (z_iretE (pc := 24) hK hE hg dX12_sets_24)
  · rw [if_neg c_3] at hg
    obtain ⟨v_4, qv_4, hg⟩ := zbind_some hg
    refine z_iload_n (pc := 14) hK 3 dX12_sets_14 rfl (z_iconst (pc := 15) hK dX12_sets_15 zc_i0 (z_iconst (pc := 16) hK dX12_sets_16 zc_i2 (z_callSi (pc := 17) hK [.int x3, .int 0, .int 2] (m_X12_within (zC_D hK) qv_4) ss_X12_within q_1538 rfl [] rfl (Nat.le_of_ble_eq_true rfl) ⟨by decide, by decide⟩ dX12_sets_17 (z_if_ne (pc := 20) hK 25 dX12_sets_20 (by decide) (fun c_5 => ?_) (fun c_5 => ?_)))))
    · rw [if_neg c_5] at hg
      obtain ⟨v_6, qv_6, hg⟩ := zbind_some hg
      obtain ⟨v_7, ev_7, hg⟩ := zlet_some hg
      exact z_aload_n (pc := 25) hK 0 dX12_sets_25 rfl (z_callVi (pc := 26) hK [] (m_X12_voters (zC_D hK) ht0 qv_6) sv_X12_voters q_1833 ht0 rfl [] rfl (Nat.le_of_ble_eq_true rfl) ⟨by decide, by decide⟩ dX12_sets_26 (z_iconst (pc := 29) hK dX12_sets_29 zc_i1 (z_iload_n (pc := 30) hK 1 dX12_sets_30 rfl (z_ishl (pc := 31) hK dX12_sets_31 (z_iconst (pc := 32) hK dX12_sets_32 zc_i1 (z_iload_n (pc := 33) hK 2 dX12_sets_33 rfl (z_ishl (pc := 34) hK dX12_sets_34 (z_ior (pc := 35) hK dX12_sets_35 (z_iconst (pc := 36) hK dX12_sets_36 zc_im1 (z_ixor (pc := 37) hK dX12_sets_37 (z_iand (pc := 38) hK dX12_sets_38 (z_nameI ev_7 (z_istore (pc := 39) hK (lv' := [(4, .int v_7), (0, .ref (G.2.2.2 t0)), (1, .int x1), (2, .int x2), (3, .int x3)]) dX12_sets_39 (by decide) rfl (z_iconst (pc := 41) hK dX12_sets_41 zc_i0 (z_istore (pc := 42) hK (lv' := [(5, .int 0), (4, .int v_7), (0, .ref (G.2.2.2 t0)), (1, .int x1), (2, .int x2), (3, .int x3)]) dX12_sets_42 (by decide) rfl (z_iload (pc := 44) hK 1 dX12_sets_44 rfl (z_istore (pc := 46) hK (lv' := [(6, .int v_7), (5, .int 0), (4, .int v_7), (0, .ref (G.2.2.2 t0)), (1, .int x1), (2, .int x2), (3, .int x3)]) dX12_sets_46 (by decide) rfl (z_iconst (pc := 48) hK dX12_sets_48 zc_i0 (z_istore (pc := 49) hK (lv' := [(7, .int 0), (6, .int v_7), (5, .int 0), (4, .int v_7), (0, .ref (G.2.2.2 t0)), (1, .int x1), (2, .int x2), (3, .int x3)]) dX12_sets_49 (by decide) rfl (z_iconst (pc := 51) hK dX12_sets_51 zc_i0 (z_istore (pc := 52) hK (lv' := [(8, .int 0), (7, .int 0), (6, .int v_7), (5, .int 0), (4, .int v_7), (0, .ref (G.2.2.2 t0)), (1, .int x1), (2, .int x2), (3, .int x3)]) dX12_sets_52 (by decide) rfl (zsub (lv' := [(0, .ref (G.2.2.2 t0)), (1, .int x1), (2, .int x2), (3, .int x3), (4, .int v_7), (5, .int 0), (6, .int v_7), (7, .int 0), (8, .int 0)]) [5, 6, 7, 8, 4, 3, 2, 1, 0] rfl (b_X12_sets_54 hK ht0 hE zfu x1 x2 x3 v_7 0 v_7 0 0 h_1 hg)))))))))))))))))))))))
    · rw [if_pos c_5] at hg
      exact z_iconst (pc := 23) hK dX12_sets_23 zc_im1 (z_iretE (pc := 24) hK hE hg dX12_sets_24)
theorem m_X12_sets {l : Launch} {G : zG} (hG : zD G) {h : zH} {t0 : Nat} {x1 : Int32} {x2 : Int32} {x3 : Int32} (ht0 : zT t0 = (11, 0)) {r : Int32 × zH} (hg : g_X12_sets h t0 x1 x2 x3 = some r) : zM l G yX12_sets cX12_sets 9 (some .int) 5 114 [.ref (G.2.2.2 t0), .int x1, .int x2, .int x3] h (some (.int r.1)) r.2 :=
  zM_of hG pn_X12 (Nat.le_of_ble_eq_true rfl) (fun K _ hK hE => b_X12_sets hK ht0 hE hg)
theorem dX12_ease_0 : decode cX12_ease 0 = .ok (.aload_n 0, 1) := by decide +kernel
theorem dX12_ease_1 : decode cX12_ease 1 = .ok (.iconst 0, 1) := by decide +kernel
theorem dX12_ease_2 : decode cX12_ease 2 = .ok (.putfield 126, 3) := by decide +kernel
theorem dX12_ease_5 : decode cX12_ease 5 = .ok (.iconst 0, 1) := by decide +kernel
theorem dX12_ease_6 : decode cX12_ease 6 = .ok (.istore_n 1, 1) := by decide +kernel
theorem dX12_ease_7 : decode cX12_ease 7 = .ok (.aload_n 0, 1) := by decide +kernel
theorem dX12_ease_8 : decode cX12_ease 8 = .ok (.invokevirtual 452, 3) := by decide +kernel
theorem dX12_ease_11 : decode cX12_ease 11 = .ok (.istore_n 2, 1) := by decide +kernel
theorem dX12_ease_12 : decode cX12_ease 12 = .ok (.iconst 0, 1) := by decide +kernel
theorem dX12_ease_13 : decode cX12_ease 13 = .ok (.istore_n 3, 1) := by decide +kernel
theorem dX12_ease_14 : decode cX12_ease 14 = .ok (.iload_n 3, 1) := by decide +kernel
theorem dX12_ease_15 : decode cX12_ease 15 = .ok (.aload_n 0, 1) := by decide +kernel
theorem dX12_ease_16 : decode cX12_ease 16 = .ok (.getfield 13, 3) := by decide +kernel
theorem dX12_ease_19 : decode cX12_ease 19 = .ok (.iconst 0, 1) := by decide +kernel
theorem dX12_ease_20 : decode cX12_ease 20 = .ok (.iaload, 1) := by decide +kernel
theorem dX12_ease_21 : decode cX12_ease 21 = .ok (.if_icmp .ge 115, 3) := by decide +kernel
theorem dX12_ease_24 : decode cX12_ease 24 = .ok (.iload_n 3, 1) := by decide +kernel
theorem dX12_ease_25 : decode cX12_ease 25 = .ok (.iconst 1, 1) := by decide +kernel
theorem dX12_ease_26 : decode cX12_ease 26 = .ok (.iadd, 1) := by decide +kernel
theorem dX12_ease_27 : decode cX12_ease 27 = .ok (.istore 4, 2) := by decide +kernel
theorem dX12_ease_29 : decode cX12_ease 29 = .ok (.iload 4, 2) := by decide +kernel
theorem dX12_ease_31 : decode cX12_ease 31 = .ok (.aload_n 0, 1) := by decide +kernel
theorem dX12_ease_32 : decode cX12_ease 32 = .ok (.getfield 13, 3) := by decide +kernel
theorem dX12_ease_35 : decode cX12_ease 35 = .ok (.iconst 0, 1) := by decide +kernel
theorem dX12_ease_36 : decode cX12_ease 36 = .ok (.iaload, 1) := by decide +kernel
theorem dX12_ease_37 : decode cX12_ease 37 = .ok (.if_icmp .ge 93, 3) := by decide +kernel
theorem dX12_ease_40 : decode cX12_ease 40 = .ok (.iload_n 2, 1) := by decide +kernel
theorem dX12_ease_41 : decode cX12_ease 41 = .ok (.iload_n 3, 1) := by decide +kernel
theorem dX12_ease_42 : decode cX12_ease 42 = .ok (.ishr, 1) := by decide +kernel
theorem dX12_ease_43 : decode cX12_ease 43 = .ok (.iconst 1, 1) := by decide +kernel
theorem dX12_ease_44 : decode cX12_ease 44 = .ok (.iand, 1) := by decide +kernel
theorem dX12_ease_45 : decode cX12_ease 45 = .ok (.ifCond .eq 79, 3) := by decide +kernel
theorem dX12_ease_48 : decode cX12_ease 48 = .ok (.iload_n 2, 1) := by decide +kernel
theorem dX12_ease_49 : decode cX12_ease 49 = .ok (.iload 4, 2) := by decide +kernel
theorem dX12_ease_51 : decode cX12_ease 51 = .ok (.ishr, 1) := by decide +kernel
theorem dX12_ease_52 : decode cX12_ease 52 = .ok (.iconst 1, 1) := by decide +kernel
theorem dX12_ease_53 : decode cX12_ease 53 = .ok (.iand, 1) := by decide +kernel
theorem dX12_ease_54 : decode cX12_ease 54 = .ok (.ifCond .ne 6, 3) := by decide +kernel
theorem dX12_ease_57 : decode cX12_ease 57 = .ok (.goto 67, 3) := by decide +kernel
theorem dX12_ease_60 : decode cX12_ease 60 = .ok (.iload_n 1, 1) := by decide +kernel
theorem dX12_ease_61 : decode cX12_ease 61 = .ok (.aload_n 0, 1) := by decide +kernel
theorem dX12_ease_62 : decode cX12_ease 62 = .ok (.iload_n 3, 1) := by decide +kernel
theorem dX12_ease_63 : decode cX12_ease 63 = .ok (.invokevirtual 394, 3) := by decide +kernel
theorem dX12_ease_66 : decode cX12_ease 66 = .ok (.iload 4, 2) := by decide +kernel
theorem dX12_ease_68 : decode cX12_ease 68 = .ok (.if_icmp .ne 53, 3) := by decide +kernel
theorem dX12_ease_71 : decode cX12_ease 71 = .ok (.aload_n 0, 1) := by decide +kernel
theorem dX12_ease_72 : decode cX12_ease 72 = .ok (.iload 4, 2) := by decide +kernel
theorem dX12_ease_74 : decode cX12_ease 74 = .ok (.invokevirtual 394, 3) := by decide +kernel
theorem dX12_ease_77 : decode cX12_ease 77 = .ok (.iload_n 3, 1) := by decide +kernel
theorem dX12_ease_78 : decode cX12_ease 78 = .ok (.if_icmp .ne 43, 3) := by decide +kernel
theorem dX12_ease_81 : decode cX12_ease 81 = .ok (.aload_n 0, 1) := by decide +kernel
theorem dX12_ease_82 : decode cX12_ease 82 = .ok (.getfield 105, 3) := by decide +kernel
theorem dX12_ease_85 : decode cX12_ease 85 = .ok (.bipush 9, 2) := by decide +kernel
theorem dX12_ease_87 : decode cX12_ease 87 = .ok (.bipush 7, 2) := by decide +kernel
theorem dX12_ease_89 : decode cX12_ease 89 = .ok (.iload_n 3, 1) := by decide +kernel
theorem dX12_ease_90 : decode cX12_ease 90 = .ok (.imul, 1) := by decide +kernel
theorem dX12_ease_91 : decode cX12_ease 91 = .ok (.iadd, 1) := by decide +kernel
theorem dX12_ease_92 : decode cX12_ease 92 = .ok (.iload 4, 2) := by decide +kernel
theorem dX12_ease_94 : decode cX12_ease 94 = .ok (.iadd, 1) := by decide +kernel
theorem dX12_ease_95 : decode cX12_ease 95 = .ok (.iaload, 1) := by decide +kernel
theorem dX12_ease_96 : decode cX12_ease 96 = .ok (.ifCond .le 25, 3) := by decide +kernel
theorem dX12_ease_99 : decode cX12_ease 99 = .ok (.aload_n 0, 1) := by decide +kernel
theorem dX12_ease_100 : decode cX12_ease 100 = .ok (.getfield 105, 3) := by decide +kernel
theorem dX12_ease_103 : decode cX12_ease 103 = .ok (.bipush 9, 2) := by decide +kernel
theorem dX12_ease_105 : decode cX12_ease 105 = .ok (.bipush 7, 2) := by decide +kernel
theorem dX12_ease_107 : decode cX12_ease 107 = .ok (.iload 4, 2) := by decide +kernel
theorem dX12_ease_109 : decode cX12_ease 109 = .ok (.imul, 1) := by decide +kernel
theorem dX12_ease_110 : decode cX12_ease 110 = .ok (.iadd, 1) := by decide +kernel
theorem dX12_ease_111 : decode cX12_ease 111 = .ok (.iload_n 3, 1) := by decide +kernel
theorem dX12_ease_112 : decode cX12_ease 112 = .ok (.iadd, 1) := by decide +kernel
theorem dX12_ease_113 : decode cX12_ease 113 = .ok (.iaload, 1) := by decide +kernel
theorem dX12_ease_114 : decode cX12_ease 114 = .ok (.ifCond .le 7, 3) := by decide +kernel
theorem dX12_ease_117 : decode cX12_ease 117 = .ok (.iconst 1, 1) := by decide +kernel
theorem dX12_ease_118 : decode cX12_ease 118 = .ok (.goto 4, 3) := by decide +kernel
theorem dX12_ease_121 : decode cX12_ease 121 = .ok (.iconst 0, 1) := by decide +kernel
theorem dX12_ease_122 : decode cX12_ease 122 = .ok (.iadd, 1) := by decide +kernel
theorem dX12_ease_123 : decode cX12_ease 123 = .ok (.istore_n 1, 1) := by decide +kernel
theorem dX12_ease_124 : decode cX12_ease 124 = .ok (.iinc 4 1, 3) := by decide +kernel
theorem dX12_ease_127 : decode cX12_ease 127 = .ok (.goto (-98), 3) := by decide +kernel
theorem dX12_ease_130 : decode cX12_ease 130 = .ok (.iinc 3 1, 3) := by decide +kernel
theorem dX12_ease_133 : decode cX12_ease 133 = .ok (.goto (-119), 3) := by decide +kernel
theorem dX12_ease_136 : decode cX12_ease 136 = .ok (.iload_n 1, 1) := by decide +kernel
theorem dX12_ease_137 : decode cX12_ease 137 = .ok (.ireturn, 1) := by decide +kernel
def g_X12_ease_29 (t0 : Nat) (k14 : Int32 → Int32 → Int32 → zH → Option (Int32 × zH)) : Nat → Int32 → Int32 → Int32 → Int32 → zH → Option (Int32 × zH)
  | 0, _, _, _, _, _ => none
  | n + 1, x1, x2, x3, x4, h => zgu (zin 0 8) <| if (h.1 (zR t0 10) (zx 0)) ≤ x4 then (k14 x1 x2 (x3 + 1) h) else (if ((x2 >>> (x3 &&& 31)) &&& 1) = 0 then (g_X12_ease_29 t0 k14 n x1 x2 x3 (x4 + 1) h) else (if ((x2 >>> (x4 &&& 31)) &&& 1) = 0 then (g_X12_ease_29 t0 k14 n x1 x2 x3 (x4 + 1) h) else ((g_X12_hated h t0 x3).bind fun v_9 => if v_9 = x4 then ((g_X12_hated h t0 x4).bind fun v_11 => if v_11 = x3 then (zgu (zin ((9 + (7 * x3)) + x4) 107) <| if (h.1 (zR t0 44) (zx ((9 + (7 * x3)) + x4))) ≤ 0 then (g_X12_ease_29 t0 k14 n (x1 + 0) x2 x3 (x4 + 1) h) else (zgu (zin ((9 + (7 * x4)) + x3) 107) <| if (h.1 (zR t0 44) (zx ((9 + (7 * x4)) + x3))) ≤ 0 then (g_X12_ease_29 t0 k14 n (x1 + 0) x2 x3 (x4 + 1) h) else (g_X12_ease_29 t0 k14 n (x1 + 1) x2 x3 (x4 + 1) h))) else (g_X12_ease_29 t0 k14 n (x1 + 0) x2 x3 (x4 + 1) h)) else (g_X12_ease_29 t0 k14 n (x1 + 0) x2 x3 (x4 + 1) h))))
def g_X12_ease_14 (t0 : Nat)  : Nat → Int32 → Int32 → Int32 → zH → Option (Int32 × zH)
  | 0, _, _, _, _ => none
  | n + 1, x1, x2, x3, h => zgu (zin 0 8) <| if (h.1 (zR t0 10) (zx 0)) ≤ x3 then (some (x1, h)) else (g_X12_ease_29 t0 (g_X12_ease_14 t0 n) zfu x1 x2 x3 (x3 + 1) h)
def g_X12_ease (h : zH) (t0 : Nat) : Option (Int32 × zH) := zlet (zpi h t0 0 0) fun h_1 => (g_X12_voters h_1 t0).bind fun v_2 => g_X12_ease_14 t0 zfu 0 v_2 0 h_1
set_option maxRecDepth 100000 in
set_option maxHeartbeats 4000000 in
theorem b_X12_ease_29 {K : zK} {G : zG} (hK : zC K G cX12_ease RX12 5 2 44 (some .int)) {t0 : Nat} (ht0 : zT t0 = (11, 0)) {r : Int32 × zH} (hE : zE K G (some (.int r.1)) r.2) {k14 : Int32 → Int32 → Int32 → zH → Option (Int32 × zH)} (hk14 : ∀ (x1 : Int32) (x2 : Int32) (x3 : Int32) (h : zH), k14 x1 x2 x3 h = some r → zW K G 5 14 [(0, .ref (G.2.2.2 t0)), (1, .int x1), (2, .int x2), (3, .int x3)] [] h) : ∀ (n : Nat) (x1 : Int32) (x2 : Int32) (x3 : Int32) (x4 : Int32) (h : zH), g_X12_ease_29 t0 k14 n x1 x2 x3 x4 h = some r → zW K G 5 29 [(0, .ref (G.2.2.2 t0)), (1, .int x1), (2, .int x2), (3, .int x3), (4, .int x4)] [] h := by
  intro n
  induction n with
  | zero => intro x1 x2 x3 x4 h hg; exact nomatch (show none = some r from hg)
  | succ n ih =>
    intro x1 x2 x3 x4 h hg
    rw [g_X12_ease_29] at hg
    obtain ⟨c_5, hg⟩ := zgu_some hg
    refine z_iload (pc := 29) hK 4 dX12_ease_29 rfl (z_aload_n (pc := 31) hK 0 dX12_ease_31 rfl (z_getR (pc := 32) hK f_X12_13_11 ht0 dX12_ease_32 (z_iconst (pc := 35) hK dX12_ease_35 zc_i0 (z_iald (pc := 36) hK (zt_11_10 ht0) c_5 dX12_ease_36 (z_icmp_ge (pc := 37) hK 130 dX12_ease_37 (by decide) (fun c_6 => ?_) (fun c_6 => ?_))))))
    · rw [if_pos c_6] at hg
      exact z_iinc (pc := 130) hK 3 (lv' := [(3, .int (x3 + 1)), (0, .ref (G.2.2.2 t0)), (1, .int x1), (2, .int x2), (4, .int x4)]) dX12_ease_130 rfl (zc_n1 _) (by decide) rfl (z_goto (pc := 133) hK 14 dX12_ease_133 (by decide) (zsub (lv' := [(0, .ref (G.2.2.2 t0)), (1, .int x1), (2, .int x2), (3, .int (x3 + 1))]) [1, 2, 3, 0] rfl (hk14 x1 x2 (x3 + 1) h hg)))
    · rw [if_neg c_6] at hg
      refine z_iload_n (pc := 40) hK 2 dX12_ease_40 rfl (z_iload_n (pc := 41) hK 3 dX12_ease_41 rfl (z_ishr (pc := 42) hK dX12_ease_42 (z_iconst (pc := 43) hK dX12_ease_43 zc_i1 (z_iand (pc := 44) hK dX12_ease_44 (z_if_eq (pc := 45) hK 124 dX12_ease_45 (by decide) (fun c_7 => ?_) (fun c_7 => ?_))))))
      · rw [if_pos c_7] at hg
        exact z_iinc (pc := 124) hK 4 (lv' := [(4, .int (x4 + 1)), (0, .ref (G.2.2.2 t0)), (1, .int x1), (2, .int x2), (3, .int x3)]) dX12_ease_124 rfl (zc_n1 _) (by decide) rfl (z_goto (pc := 127) hK 29 dX12_ease_127 (by decide) (zsub (lv' := [(0, .ref (G.2.2.2 t0)), (1, .int x1), (2, .int x2), (3, .int x3), (4, .int (x4 + 1))]) [1, 2, 3, 4, 0] rfl (ih x1 x2 x3 (x4 + 1) h hg)))
      · rw [if_neg c_7] at hg
        refine z_iload_n (pc := 48) hK 2 dX12_ease_48 rfl (z_iload (pc := 49) hK 4 dX12_ease_49 rfl (z_ishr (pc := 51) hK dX12_ease_51 (z_iconst (pc := 52) hK dX12_ease_52 zc_i1 (z_iand (pc := 53) hK dX12_ease_53 (z_if_ne (pc := 54) hK 60 dX12_ease_54 (by decide) (fun c_8 => ?_) (fun c_8 => ?_))))))
        · rw [if_neg c_8] at hg
          obtain ⟨v_9, qv_9, hg⟩ := zbind_some hg
          refine z_iload_n (pc := 60) hK 1 dX12_ease_60 rfl (z_aload_n (pc := 61) hK 0 dX12_ease_61 rfl (z_iload_n (pc := 62) hK 3 dX12_ease_62 rfl (z_callVi (pc := 63) hK [.int x3] (m_X12_hated (zC_D hK) ht0 qv_9) sv_X12_hated q_1752 ht0 rfl [.int x1] rfl (Nat.le_of_ble_eq_true rfl) ⟨by decide, by decide⟩ dX12_ease_63 (z_iload (pc := 66) hK 4 dX12_ease_66 rfl (z_icmp_ne (pc := 68) hK 121 dX12_ease_68 (by decide) (fun c_10 => ?_) (fun c_10 => ?_))))))
          · rw [if_neg c_10] at hg
            exact z_iconst (pc := 121) hK dX12_ease_121 zc_i0 (z_iadd (pc := 122) hK dX12_ease_122 (z_istore_n (pc := 123) hK (lv' := [(1, .int (x1 + 0)), (0, .ref (G.2.2.2 t0)), (2, .int x2), (3, .int x3), (4, .int x4)]) dX12_ease_123 (by decide) rfl (z_iinc (pc := 124) hK 4 (lv' := [(4, .int (x4 + 1)), (1, .int (x1 + 0)), (0, .ref (G.2.2.2 t0)), (2, .int x2), (3, .int x3)]) dX12_ease_124 rfl (zc_n1 _) (by decide) rfl (z_goto (pc := 127) hK 29 dX12_ease_127 (by decide) (zsub (lv' := [(0, .ref (G.2.2.2 t0)), (1, .int (x1 + 0)), (2, .int x2), (3, .int x3), (4, .int (x4 + 1))]) [2, 1, 3, 4, 0] rfl (ih (x1 + 0) x2 x3 (x4 + 1) h hg))))))
          · rw [if_pos c_10] at hg
            obtain ⟨v_11, qv_11, hg⟩ := zbind_some hg
            refine z_aload_n (pc := 71) hK 0 dX12_ease_71 rfl (z_iload (pc := 72) hK 4 dX12_ease_72 rfl (z_callVi (pc := 74) hK [.int x4] (m_X12_hated (zC_D hK) ht0 qv_11) sv_X12_hated q_1752 ht0 rfl [.int x1] rfl (Nat.le_of_ble_eq_true rfl) ⟨by decide, by decide⟩ dX12_ease_74 (z_iload_n (pc := 77) hK 3 dX12_ease_77 rfl (z_icmp_ne (pc := 78) hK 121 dX12_ease_78 (by decide) (fun c_12 => ?_) (fun c_12 => ?_)))))
            · rw [if_neg c_12] at hg
              exact z_iconst (pc := 121) hK dX12_ease_121 zc_i0 (z_iadd (pc := 122) hK dX12_ease_122 (z_istore_n (pc := 123) hK (lv' := [(1, .int (x1 + 0)), (0, .ref (G.2.2.2 t0)), (2, .int x2), (3, .int x3), (4, .int x4)]) dX12_ease_123 (by decide) rfl (z_iinc (pc := 124) hK 4 (lv' := [(4, .int (x4 + 1)), (1, .int (x1 + 0)), (0, .ref (G.2.2.2 t0)), (2, .int x2), (3, .int x3)]) dX12_ease_124 rfl (zc_n1 _) (by decide) rfl (z_goto (pc := 127) hK 29 dX12_ease_127 (by decide) (zsub (lv' := [(0, .ref (G.2.2.2 t0)), (1, .int (x1 + 0)), (2, .int x2), (3, .int x3), (4, .int (x4 + 1))]) [2, 1, 3, 4, 0] rfl (ih (x1 + 0) x2 x3 (x4 + 1) h hg))))))
            · rw [if_pos c_12] at hg
              obtain ⟨c_13, hg⟩ := zgu_some hg
              refine z_aload_n (pc := 81) hK 0 dX12_ease_81 rfl (z_getR (pc := 82) hK f_X12_105_11 ht0 dX12_ease_82 (z_bipush (pc := 85) hK dX12_ease_85 zc_b9 (z_bipush (pc := 87) hK dX12_ease_87 zc_b7 (z_iload_n (pc := 89) hK 3 dX12_ease_89 rfl (z_imul (pc := 90) hK dX12_ease_90 (z_iadd (pc := 91) hK dX12_ease_91 (z_iload (pc := 92) hK 4 dX12_ease_92 rfl (z_iadd (pc := 94) hK dX12_ease_94 (z_iald (pc := 95) hK (zt_11_44 ht0) c_13 dX12_ease_95 (z_if_le (pc := 96) hK 121 dX12_ease_96 (by decide) (fun c_14 => ?_) (fun c_14 => ?_)))))))))))
              · rw [if_pos c_14] at hg
                exact z_iconst (pc := 121) hK dX12_ease_121 zc_i0 (z_iadd (pc := 122) hK dX12_ease_122 (z_istore_n (pc := 123) hK (lv' := [(1, .int (x1 + 0)), (0, .ref (G.2.2.2 t0)), (2, .int x2), (3, .int x3), (4, .int x4)]) dX12_ease_123 (by decide) rfl (z_iinc (pc := 124) hK 4 (lv' := [(4, .int (x4 + 1)), (1, .int (x1 + 0)), (0, .ref (G.2.2.2 t0)), (2, .int x2), (3, .int x3)]) dX12_ease_124 rfl (zc_n1 _) (by decide) rfl (z_goto (pc := 127) hK 29 dX12_ease_127 (by decide) (zsub (lv' := [(0, .ref (G.2.2.2 t0)), (1, .int (x1 + 0)), (2, .int x2), (3, .int x3), (4, .int (x4 + 1))]) [2, 1, 3, 4, 0] rfl (ih (x1 + 0) x2 x3 (x4 + 1) h hg))))))
              · rw [if_neg c_14] at hg
                obtain ⟨c_15, hg⟩ := zgu_some hg
                refine z_aload_n (pc := 99) hK 0 dX12_ease_99 rfl (z_getR (pc := 100) hK f_X12_105_11 ht0 dX12_ease_100 (z_bipush (pc := 103) hK dX12_ease_103 zc_b9 (z_bipush (pc := 105) hK dX12_ease_105 zc_b7 (z_iload (pc := 107) hK 4 dX12_ease_107 rfl (z_imul (pc := 109) hK dX12_ease_109 (z_iadd (pc := 110) hK dX12_ease_110 (z_iload_n (pc := 111) hK 3 dX12_ease_111 rfl (z_iadd (pc := 112) hK dX12_ease_112 (z_iald (pc := 113) hK (zt_11_44 ht0) c_15 dX12_ease_113 (z_if_le (pc := 114) hK 121 dX12_ease_114 (by decide) (fun c_16 => ?_) (fun c_16 => ?_)))))))))))
                · rw [if_pos c_16] at hg
                  exact z_iconst (pc := 121) hK dX12_ease_121 zc_i0 (z_iadd (pc := 122) hK dX12_ease_122 (z_istore_n (pc := 123) hK (lv' := [(1, .int (x1 + 0)), (0, .ref (G.2.2.2 t0)), (2, .int x2), (3, .int x3), (4, .int x4)]) dX12_ease_123 (by decide) rfl (z_iinc (pc := 124) hK 4 (lv' := [(4, .int (x4 + 1)), (1, .int (x1 + 0)), (0, .ref (G.2.2.2 t0)), (2, .int x2), (3, .int x3)]) dX12_ease_124 rfl (zc_n1 _) (by decide) rfl (z_goto (pc := 127) hK 29 dX12_ease_127 (by decide) (zsub (lv' := [(0, .ref (G.2.2.2 t0)), (1, .int (x1 + 0)), (2, .int x2), (3, .int x3), (4, .int (x4 + 1))]) [2, 1, 3, 4, 0] rfl (ih (x1 + 0) x2 x3 (x4 + 1) h hg))))))
                · rw [if_neg c_16] at hg
                  exact z_iconst (pc := 117) hK dX12_ease_117 zc_i1 (z_goto (pc := 118) hK 122 dX12_ease_118 (by decide) (z_iadd (pc := 122) hK dX12_ease_122 (z_istore_n (pc := 123) hK (lv' := [(1, .int (x1 + 1)), (0, .ref (G.2.2.2 t0)), (2, .int x2), (3, .int x3), (4, .int x4)]) dX12_ease_123 (by decide) rfl (z_iinc (pc := 124) hK 4 (lv' := [(4, .int (x4 + 1)), (1, .int (x1 + 1)), (0, .ref (G.2.2.2 t0)), (2, .int x2), (3, .int x3)]) dX12_ease_124 rfl (zc_n1 _) (by decide) rfl (z_goto (pc := 127) hK 29 dX12_ease_127 (by decide) (zsub (lv' := [(0, .ref (G.2.2.2 t0)), (1, .int (x1 + 1)), (2, .int x2), (3, .int x3), (4, .int (x4 + 1))]) [2, 1, 3, 4, 0] rfl (ih (x1 + 1) x2 x3 (x4 + 1) h hg)))))))
        · rw [if_pos c_8] at hg
          exact z_goto (pc := 57) hK 124 dX12_ease_57 (by decide) (z_iinc (pc := 124) hK 4 (lv' := [(4, .int (x4 + 1)), (0, .ref (G.2.2.2 t0)), (1, .int x1), (2, .int x2), (3, .int x3)]) dX12_ease_124 rfl (zc_n1 _) (by decide) rfl (z_goto (pc := 127) hK 29 dX12_ease_127 (by decide) (zsub (lv' := [(0, .ref (G.2.2.2 t0)), (1, .int x1), (2, .int x2), (3, .int x3), (4, .int (x4 + 1))]) [1, 2, 3, 4, 0] rfl (ih x1 x2 x3 (x4 + 1) h hg))))
set_option maxRecDepth 100000 in
set_option maxHeartbeats 4000000 in
theorem b_X12_ease_14 {K : zK} {G : zG} (hK : zC K G cX12_ease RX12 5 2 44 (some .int)) {t0 : Nat} (ht0 : zT t0 = (11, 0)) {r : Int32 × zH} (hE : zE K G (some (.int r.1)) r.2) : ∀ (n : Nat) (x1 : Int32) (x2 : Int32) (x3 : Int32) (h : zH), g_X12_ease_14 t0 n x1 x2 x3 h = some r → zW K G 5 14 [(0, .ref (G.2.2.2 t0)), (1, .int x1), (2, .int x2), (3, .int x3)] [] h := by
  intro n
  induction n with
  | zero => intro x1 x2 x3 h hg; exact nomatch (show none = some r from hg)
  | succ n ih =>
    intro x1 x2 x3 h hg
    rw [g_X12_ease_14] at hg
    obtain ⟨c_3, hg⟩ := zgu_some hg
    refine z_iload_n (pc := 14) hK 3 dX12_ease_14 rfl (z_aload_n (pc := 15) hK 0 dX12_ease_15 rfl (z_getR (pc := 16) hK f_X12_13_11 ht0 dX12_ease_16 (z_iconst (pc := 19) hK dX12_ease_19 zc_i0 (z_iald (pc := 20) hK (zt_11_10 ht0) c_3 dX12_ease_20 (z_icmp_ge (pc := 21) hK 136 dX12_ease_21 (by decide) (fun c_4 => ?_) (fun c_4 => ?_))))))
    · rw [if_pos c_4] at hg
      exact z_iload_n (pc := 136) hK 1 dX12_ease_136 rfl (z_iretE (pc := 137) hK hE hg dX12_ease_137)
    · rw [if_neg c_4] at hg
      exact z_iload_n (pc := 24) hK 3 dX12_ease_24 rfl (z_iconst (pc := 25) hK dX12_ease_25 zc_i1 (z_iadd (pc := 26) hK dX12_ease_26 (z_istore (pc := 27) hK (lv' := [(4, .int (x3 + 1)), (0, .ref (G.2.2.2 t0)), (1, .int x1), (2, .int x2), (3, .int x3)]) dX12_ease_27 (by decide) rfl (zsub (lv' := [(0, .ref (G.2.2.2 t0)), (1, .int x1), (2, .int x2), (3, .int x3), (4, .int (x3 + 1))]) [1, 2, 3, 4, 0] rfl (b_X12_ease_29 hK ht0 hE ih zfu x1 x2 x3 (x3 + 1) h hg)))))
set_option maxRecDepth 100000 in
set_option maxHeartbeats 4000000 in
theorem b_X12_ease {K : zK} {G : zG} (hK : zC K G cX12_ease RX12 5 2 44 (some .int)) {h : zH} {t0 : Nat} (ht0 : zT t0 = (11, 0)) {r : Int32 × zH} (hE : zE K G (some (.int r.1)) r.2) (hg : g_X12_ease h t0 = some r) : zW K G 5 0 [(0, .ref (G.2.2.2 t0))] [] h := by
  rw [g_X12_ease] at hg
  obtain ⟨h_1, eh_1, hg⟩ := zlet_some hg
  obtain ⟨v_2, qv_2, hg⟩ := zbind_some hg
  exact z_aload_n (pc := 0) hK 0 dX12_ease_0 rfl (z_iconst (pc := 1) hK dX12_ease_1 zc_i0 (z_putI (pc := 2) hK f_X12_126_11 fp_11_0 ht0 dX12_ease_2 (z_nameH eh_1 (z_iconst (pc := 5) hK dX12_ease_5 zc_i0 (z_istore_n (pc := 6) hK (lv' := [(1, .int 0), (0, .ref (G.2.2.2 t0))]) dX12_ease_6 (by decide) rfl (z_aload_n (pc := 7) hK 1 dX12_ease_7 rfl (z_callVi (pc := 8) hK [] (m_X12_voters (zC_D hK) ht0 qv_2) sv_X12_voters q_1833 ht0 rfl [] rfl (Nat.le_of_ble_eq_true rfl) ⟨by decide, by decide⟩ dX12_ease_8 (z_istore_n (pc := 11) hK (lv' := [(2, .int v_2), (1, .int 0), (0, .ref (G.2.2.2 t0))]) dX12_ease_11 (by decide) rfl (z_iconst (pc := 12) hK dX12_ease_12 zc_i0 (z_istore_n (pc := 13) hK (lv' := [(3, .int 0), (2, .int v_2), (1, .int 0), (0, .ref (G.2.2.2 t0))]) dX12_ease_13 (by decide) rfl (zsub (lv' := [(0, .ref (G.2.2.2 t0)), (1, .int 0), (2, .int v_2), (3, .int 0)]) [3, 2, 1, 0] rfl (b_X12_ease_14 hK ht0 hE zfu 0 v_2 0 h_1 hg))))))))))))
theorem m_X12_ease {l : Launch} {G : zG} (hG : zD G) {h : zH} {t0 : Nat} (ht0 : zT t0 = (11, 0)) {r : Int32 × zH} (hg : g_X12_ease h t0 = some r) : zM l G yX12_ease cX12_ease 5 (some .int) 2 44 [.ref (G.2.2.2 t0)] h (some (.int r.1)) r.2 :=
  zM_of hG pn_X12 (Nat.le_of_ble_eq_true rfl) (fun K _ hK hE => b_X12_ease hK ht0 hE hg)
theorem dX12_getsBy_0 : decode cX12_getsBy 0 = .ok (.iload 4, 2) := by decide +kernel
theorem dX12_getsBy_2 : decode cX12_getsBy 2 = .ok (.iconst 1, 1) := by decide +kernel
theorem dX12_getsBy_3 : decode cX12_getsBy 3 = .ok (.if_icmp .ne 8, 3) := by decide +kernel
theorem dX12_getsBy_6 : decode cX12_getsBy 6 = .ok (.iload_n 2, 1) := by decide +kernel
theorem dX12_getsBy_7 : decode cX12_getsBy 7 = .ok (.ineg, 1) := by decide +kernel
theorem dX12_getsBy_8 : decode cX12_getsBy 8 = .ok (.goto 13, 3) := by decide +kernel
theorem dX12_getsBy_11 : decode cX12_getsBy 11 = .ok (.iload_n 3, 1) := by decide +kernel
theorem dX12_getsBy_12 : decode cX12_getsBy 12 = .ok (.iconst 1, 1) := by decide +kernel
theorem dX12_getsBy_13 : decode cX12_getsBy 13 = .ok (.if_icmp .ne 7, 3) := by decide +kernel
theorem dX12_getsBy_16 : decode cX12_getsBy 16 = .ok (.iload_n 1, 1) := by decide +kernel
theorem dX12_getsBy_17 : decode cX12_getsBy 17 = .ok (.goto 4, 3) := by decide +kernel
theorem dX12_getsBy_20 : decode cX12_getsBy 20 = .ok (.iload_n 0, 1) := by decide +kernel
theorem dX12_getsBy_21 : decode cX12_getsBy 21 = .ok (.ireturn, 1) := by decide +kernel
def g_X12_getsBy (h : zH) (x0 : Int32) (x1 : Int32) (x2 : Int32) (x3 : Int32) (x4 : Int32) : Option Int32 := if x4 = 1 then (some (-x2)) else (if x3 = 1 then (some x1) else (some x0))
set_option maxRecDepth 100000 in
set_option maxHeartbeats 4000000 in
theorem b_X12_getsBy {K : zK} {G : zG} (hK : zC K G cX12_getsBy RX12 5 0 0 (some .int)) {h : zH} {x0 : Int32} {x1 : Int32} {x2 : Int32} {x3 : Int32} {x4 : Int32}  {r : Int32} (hE : zE K G (some (.int r)) h) (hg : g_X12_getsBy h x0 x1 x2 x3 x4 = some r) : zW K G 5 0 [(0, .int x0), (1, .int x1), (2, .int x2), (3, .int x3), (4, .int x4)] [] h := by
  rw [g_X12_getsBy] at hg
  refine z_iload (pc := 0) hK 4 dX12_getsBy_0 rfl (z_iconst (pc := 2) hK dX12_getsBy_2 zc_i1 (z_icmp_ne (pc := 3) hK 11 dX12_getsBy_3 (by decide) (fun c_1 => ?_) (fun c_1 => ?_)))
  · rw [if_neg c_1] at hg
    refine z_iload_n (pc := 11) hK 3 dX12_getsBy_11 rfl (z_iconst (pc := 12) hK dX12_getsBy_12 zc_i1 (z_icmp_ne (pc := 13) hK 20 dX12_getsBy_13 (by decide) (fun c_2 => ?_) (fun c_2 => ?_)))
    · rw [if_neg c_2] at hg
      exact z_iload_n (pc := 20) hK 0 dX12_getsBy_20 rfl (z_iretP (pc := 21) hK hE hg dX12_getsBy_21)
    · rw [if_pos c_2] at hg
      exact z_iload_n (pc := 16) hK 1 dX12_getsBy_16 rfl (z_goto (pc := 17) hK 21 dX12_getsBy_17 (by decide) (z_iretP (pc := 21) hK hE hg dX12_getsBy_21))
  · rw [if_pos c_1] at hg
    exact z_iload_n (pc := 6) hK 2 dX12_getsBy_6 rfl (z_ineg (pc := 7) hK dX12_getsBy_7 (z_goto (pc := 8) hK 21 dX12_getsBy_8 (by decide) (z_iretP (pc := 21) hK hE hg dX12_getsBy_21)))
theorem m_X12_getsBy {l : Launch} {G : zG} (hG : zD G) {h : zH} {x0 : Int32} {x1 : Int32} {x2 : Int32} {x3 : Int32} {x4 : Int32}  {r : Int32} (hg : g_X12_getsBy h x0 x1 x2 x3 x4 = some r) : zM l G yX12_getsBy cX12_getsBy 5 (some .int) 0 0 [.int x0, .int x1, .int x2, .int x3, .int x4] h (some (.int r)) h :=
  zM_of hG pn_X12 (Nat.le_of_ble_eq_true rfl) (fun K _ hK hE => b_X12_getsBy hK  hE hg)
theorem dX12_rests_0 : decode cX12_rests 0 = .ok (.aload_n 0, 1) := by decide +kernel
theorem dX12_rests_1 : decode cX12_rests 1 = .ok (.iload_n 1, 1) := by decide +kernel
theorem dX12_rests_2 : decode cX12_rests 2 = .ok (.iconst 0, 1) := by decide +kernel
theorem dX12_rests_3 : decode cX12_rests 3 = .ok (.bipush 9, 2) := by decide +kernel
theorem dX12_rests_5 : decode cX12_rests 5 = .ok (.invokestatic 259, 3) := by decide +kernel
theorem dX12_rests_8 : decode cX12_rests 8 = .ok (.ifCond .eq 33, 3) := by decide +kernel
theorem dX12_rests_11 : decode cX12_rests 11 = .ok (.iload_n 2, 1) := by decide +kernel
theorem dX12_rests_12 : decode cX12_rests 12 = .ok (.iconst 0, 1) := by decide +kernel
theorem dX12_rests_13 : decode cX12_rests 13 = .ok (.bipush 9, 2) := by decide +kernel
theorem dX12_rests_15 : decode cX12_rests 15 = .ok (.invokestatic 259, 3) := by decide +kernel
theorem dX12_rests_18 : decode cX12_rests 18 = .ok (.ifCond .eq 23, 3) := by decide +kernel
theorem dX12_rests_21 : decode cX12_rests 21 = .ok (.iload_n 3, 1) := by decide +kernel
theorem dX12_rests_22 : decode cX12_rests 22 = .ok (.iconst 0, 1) := by decide +kernel
theorem dX12_rests_23 : decode cX12_rests 23 = .ok (.bipush 9, 2) := by decide +kernel
theorem dX12_rests_25 : decode cX12_rests 25 = .ok (.invokestatic 259, 3) := by decide +kernel
theorem dX12_rests_28 : decode cX12_rests 28 = .ok (.ifCond .eq 13, 3) := by decide +kernel
theorem dX12_rests_31 : decode cX12_rests 31 = .ok (.iload 4, 2) := by decide +kernel
theorem dX12_rests_33 : decode cX12_rests 33 = .ok (.iconst (-1), 1) := by decide +kernel
theorem dX12_rests_34 : decode cX12_rests 34 = .ok (.if_icmp .lt 7, 3) := by decide +kernel
theorem dX12_rests_37 : decode cX12_rests 37 = .ok (.iconst 0, 1) := by decide +kernel
theorem dX12_rests_38 : decode cX12_rests 38 = .ok (.goto 4, 3) := by decide +kernel
theorem dX12_rests_41 : decode cX12_rests 41 = .ok (.iconst 1, 1) := by decide +kernel
theorem dX12_rests_42 : decode cX12_rests 42 = .ok (.putfield 126, 3) := by decide +kernel
theorem dX12_rests_45 : decode cX12_rests 45 = .ok (.aload_n 0, 1) := by decide +kernel
theorem dX12_rests_46 : decode cX12_rests 46 = .ok (.getfield 126, 3) := by decide +kernel
theorem dX12_rests_49 : decode cX12_rests 49 = .ok (.iconst 1, 1) := by decide +kernel
theorem dX12_rests_50 : decode cX12_rests 50 = .ok (.if_icmp .ne 5, 3) := by decide +kernel
theorem dX12_rests_53 : decode cX12_rests 53 = .ok (.iconst 0, 1) := by decide +kernel
theorem dX12_rests_54 : decode cX12_rests 54 = .ok (.ireturn, 1) := by decide +kernel
theorem dX12_rests_55 : decode cX12_rests 55 = .ok (.iconst 0, 1) := by decide +kernel
theorem dX12_rests_56 : decode cX12_rests 56 = .ok (.istore 5, 2) := by decide +kernel
theorem dX12_rests_58 : decode cX12_rests 58 = .ok (.iconst 0, 1) := by decide +kernel
theorem dX12_rests_59 : decode cX12_rests 59 = .ok (.istore 6, 2) := by decide +kernel
theorem dX12_rests_61 : decode cX12_rests 61 = .ok (.iload 6, 2) := by decide +kernel
theorem dX12_rests_63 : decode cX12_rests 63 = .ok (.iconst 4, 1) := by decide +kernel
theorem dX12_rests_64 : decode cX12_rests 64 = .ok (.if_icmp .ge 87, 3) := by decide +kernel
theorem dX12_rests_67 : decode cX12_rests 67 = .ok (.iload 6, 2) := by decide +kernel
theorem dX12_rests_69 : decode cX12_rests 69 = .ok (.iconst 2, 1) := by decide +kernel
theorem dX12_rests_70 : decode cX12_rests 70 = .ok (.idiv, 1) := by decide +kernel
theorem dX12_rests_71 : decode cX12_rests 71 = .ok (.istore 7, 2) := by decide +kernel
theorem dX12_rests_73 : decode cX12_rests 73 = .ok (.iload 6, 2) := by decide +kernel
theorem dX12_rests_75 : decode cX12_rests 75 = .ok (.iconst 2, 1) := by decide +kernel
theorem dX12_rests_76 : decode cX12_rests 76 = .ok (.irem, 1) := by decide +kernel
theorem dX12_rests_77 : decode cX12_rests 77 = .ok (.istore 8, 2) := by decide +kernel
theorem dX12_rests_79 : decode cX12_rests 79 = .ok (.iload_n 1, 1) := by decide +kernel
theorem dX12_rests_80 : decode cX12_rests 80 = .ok (.iload_n 2, 1) := by decide +kernel
theorem dX12_rests_81 : decode cX12_rests 81 = .ok (.iload_n 3, 1) := by decide +kernel
theorem dX12_rests_82 : decode cX12_rests 82 = .ok (.iconst 1, 1) := by decide +kernel
theorem dX12_rests_83 : decode cX12_rests 83 = .ok (.iload 7, 2) := by decide +kernel
theorem dX12_rests_85 : decode cX12_rests 85 = .ok (.isub, 1) := by decide +kernel
theorem dX12_rests_86 : decode cX12_rests 86 = .ok (.iload 8, 2) := by decide +kernel
theorem dX12_rests_88 : decode cX12_rests 88 = .ok (.invokestatic 458, 3) := by decide +kernel
theorem dX12_rests_91 : decode cX12_rests 91 = .ok (.iload_n 1, 1) := by decide +kernel
theorem dX12_rests_92 : decode cX12_rests 92 = .ok (.iload_n 2, 1) := by decide +kernel
theorem dX12_rests_93 : decode cX12_rests 93 = .ok (.iload_n 3, 1) := by decide +kernel
theorem dX12_rests_94 : decode cX12_rests 94 = .ok (.iload 7, 2) := by decide +kernel
theorem dX12_rests_96 : decode cX12_rests 96 = .ok (.iload 8, 2) := by decide +kernel
theorem dX12_rests_98 : decode cX12_rests 98 = .ok (.invokestatic 458, 3) := by decide +kernel
theorem dX12_rests_101 : decode cX12_rests 101 = .ok (.if_icmp .gt 44, 3) := by decide +kernel
theorem dX12_rests_104 : decode cX12_rests 104 = .ok (.iload_n 1, 1) := by decide +kernel
theorem dX12_rests_105 : decode cX12_rests 105 = .ok (.iload_n 2, 1) := by decide +kernel
theorem dX12_rests_106 : decode cX12_rests 106 = .ok (.iload_n 3, 1) := by decide +kernel
theorem dX12_rests_107 : decode cX12_rests 107 = .ok (.iconst 1, 1) := by decide +kernel
theorem dX12_rests_108 : decode cX12_rests 108 = .ok (.iload 8, 2) := by decide +kernel
theorem dX12_rests_110 : decode cX12_rests 110 = .ok (.isub, 1) := by decide +kernel
theorem dX12_rests_111 : decode cX12_rests 111 = .ok (.iload 7, 2) := by decide +kernel
theorem dX12_rests_113 : decode cX12_rests 113 = .ok (.invokestatic 458, 3) := by decide +kernel
theorem dX12_rests_116 : decode cX12_rests 116 = .ok (.iload_n 1, 1) := by decide +kernel
theorem dX12_rests_117 : decode cX12_rests 117 = .ok (.iload_n 2, 1) := by decide +kernel
theorem dX12_rests_118 : decode cX12_rests 118 = .ok (.iload_n 3, 1) := by decide +kernel
theorem dX12_rests_119 : decode cX12_rests 119 = .ok (.iload 8, 2) := by decide +kernel
theorem dX12_rests_121 : decode cX12_rests 121 = .ok (.iload 7, 2) := by decide +kernel
theorem dX12_rests_123 : decode cX12_rests 123 = .ok (.invokestatic 458, 3) := by decide +kernel
theorem dX12_rests_126 : decode cX12_rests 126 = .ok (.if_icmp .le 6, 3) := by decide +kernel
theorem dX12_rests_129 : decode cX12_rests 129 = .ok (.goto 16, 3) := by decide +kernel
theorem dX12_rests_132 : decode cX12_rests 132 = .ok (.iload 5, 2) := by decide +kernel
theorem dX12_rests_134 : decode cX12_rests 134 = .ok (.iload 4, 2) := by decide +kernel
theorem dX12_rests_136 : decode cX12_rests 136 = .ok (.if_icmp .ne 6, 3) := by decide +kernel
theorem dX12_rests_139 : decode cX12_rests 139 = .ok (.iload 6, 2) := by decide +kernel
theorem dX12_rests_141 : decode cX12_rests 141 = .ok (.ireturn, 1) := by decide +kernel
theorem dX12_rests_142 : decode cX12_rests 142 = .ok (.iinc 5 1, 3) := by decide +kernel
theorem dX12_rests_145 : decode cX12_rests 145 = .ok (.iinc 6 1, 3) := by decide +kernel
theorem dX12_rests_148 : decode cX12_rests 148 = .ok (.goto (-87), 3) := by decide +kernel
theorem dX12_rests_151 : decode cX12_rests 151 = .ok (.aload_n 0, 1) := by decide +kernel
theorem dX12_rests_152 : decode cX12_rests 152 = .ok (.iload 4, 2) := by decide +kernel
theorem dX12_rests_154 : decode cX12_rests 154 = .ok (.iconst (-1), 1) := by decide +kernel
theorem dX12_rests_155 : decode cX12_rests 155 = .ok (.if_icmp .ne 7, 3) := by decide +kernel
theorem dX12_rests_158 : decode cX12_rests 158 = .ok (.iconst 0, 1) := by decide +kernel
theorem dX12_rests_159 : decode cX12_rests 159 = .ok (.goto 4, 3) := by decide +kernel
theorem dX12_rests_162 : decode cX12_rests 162 = .ok (.iconst 1, 1) := by decide +kernel
theorem dX12_rests_163 : decode cX12_rests 163 = .ok (.putfield 126, 3) := by decide +kernel
theorem dX12_rests_166 : decode cX12_rests 166 = .ok (.iload 4, 2) := by decide +kernel
theorem dX12_rests_168 : decode cX12_rests 168 = .ok (.iconst (-1), 1) := by decide +kernel
theorem dX12_rests_169 : decode cX12_rests 169 = .ok (.if_icmp .ne 8, 3) := by decide +kernel
theorem dX12_rests_172 : decode cX12_rests 172 = .ok (.iload 5, 2) := by decide +kernel
theorem dX12_rests_174 : decode cX12_rests 174 = .ok (.goto 4, 3) := by decide +kernel
theorem dX12_rests_177 : decode cX12_rests 177 = .ok (.iconst 0, 1) := by decide +kernel
theorem dX12_rests_178 : decode cX12_rests 178 = .ok (.ireturn, 1) := by decide +kernel
def g_X12_rests_163 (t0 : Nat)  (x4 : Int32) (x5 : Int32) (s0 : Int32) (h : zH) : Option (Int32 × zH) := zlet (zpi h t0 0 s0) fun h_20 => if x4 = (-1) then (some (x5, h_20)) else (some (0, h_20))
def g_X12_rests_61 (t0 : Nat)  : Nat → Int32 → Int32 → Int32 → Int32 → Int32 → Int32 → zH → Option (Int32 × zH)
  | 0, _, _, _, _, _, _, _ => none
  | n + 1, x1, x2, x3, x4, x5, x6, h => if 4 ≤ x6 then (if x4 = (-1) then (g_X12_rests_163 t0 x4 x5 0 h) else (g_X12_rests_163 t0 x4 x5 1 h)) else (zlet (x6 - x6 / 2 * 2) fun v_12 => (g_X12_getsBy h x1 x2 x3 (1 - (x6 / 2)) v_12).bind fun v_13 => (g_X12_getsBy h x1 x2 x3 (x6 / 2) v_12).bind fun v_14 => if v_14 < v_13 then (g_X12_rests_61 t0 n x1 x2 x3 x4 x5 (x6 + 1) h) else ((g_X12_getsBy h x1 x2 x3 (1 - v_12) (x6 / 2)).bind fun v_16 => (g_X12_getsBy h x1 x2 x3 v_12 (x6 / 2)).bind fun v_17 => if v_16 ≤ v_17 then (if x5 = x4 then (some (x6, h)) else (g_X12_rests_61 t0 n x1 x2 x3 x4 (x5 + 1) (x6 + 1) h)) else (g_X12_rests_61 t0 n x1 x2 x3 x4 x5 (x6 + 1) h)))
def g_X12_rests_42 (t0 : Nat)  (x1 : Int32) (x2 : Int32) (x3 : Int32) (x4 : Int32) (s0 : Int32) (h : zH) : Option (Int32 × zH) := zlet (zpi h t0 0 s0) fun h_8 => if (h_8.1 t0 0) = 1 then (some (0, h_8)) else (g_X12_rests_61 t0 zfu x1 x2 x3 x4 0 0 h_8)
def g_X12_rests_41 (t0 : Nat)  (x1 : Int32) (x2 : Int32) (x3 : Int32) (x4 : Int32) (h : zH) : Option (Int32 × zH) := g_X12_rests_42 t0 x1 x2 x3 x4 1 h
def g_X12_rests (h : zH) (t0 : Nat) (x1 : Int32) (x2 : Int32) (x3 : Int32) (x4 : Int32) : Option (Int32 × zH) := (g_X12_within h x1 0 9).bind fun v_1 => if (zb v_1) = 0 then (g_X12_rests_41 t0 x1 x2 x3 x4 h) else ((g_X12_within h x2 0 9).bind fun v_3 => if (zb v_3) = 0 then (g_X12_rests_41 t0 x1 x2 x3 x4 h) else ((g_X12_within h x3 0 9).bind fun v_5 => if (zb v_5) = 0 then (g_X12_rests_41 t0 x1 x2 x3 x4 h) else (if x4 < (-1) then (g_X12_rests_41 t0 x1 x2 x3 x4 h) else (g_X12_rests_42 t0 x1 x2 x3 x4 0 h))))
set_option maxRecDepth 100000 in
set_option maxHeartbeats 4000000 in
theorem b_X12_rests_163 {K : zK} {G : zG} (hK : zC K G cX12_rests RX12 9 1 24 (some .int)) {t0 : Nat} (ht0 : zT t0 = (11, 0)) {r : Int32 × zH} (hE : zE K G (some (.int r.1)) r.2) (x4 : Int32) (x5 : Int32) (s0 : Int32) (h : zH) (hg : g_X12_rests_163 t0 x4 x5 s0 h = some r) : zW K G 9 163 [(4, .int x4), (5, .int x5)] [.int s0, .ref (G.2.2.2 t0)] h := by
  rw [g_X12_rests_163] at hg
  obtain ⟨h_20, eh_20, hg⟩ := zlet_some hg
  refine z_putI (pc := 163) hK f_X12_126_11 fp_11_0 ht0 dX12_rests_163 (z_nameH eh_20 (z_iload (pc := 166) hK 0 dX12_rests_166 rfl (z_iconst (pc := 168) hK dX12_rests_168 zc_im1 (z_icmp_ne (pc := 169) hK 177 dX12_rests_169 (by decide) (fun c_21 => ?_) (fun c_21 => ?_)))))
  · rw [if_neg c_21] at hg
    exact z_iconst (pc := 177) hK dX12_rests_177 zc_i0 (z_iretE (pc := 178) hK hE hg dX12_rests_178)
  · rw [if_pos c_21] at hg
    exact z_iload (pc := 172) hK 1 dX12_rests_172 rfl (z_goto (pc := 174) hK 178 dX12_rests_174 (by decide) (z_iretE (pc := 178) hK hE hg dX12_rests_178))
set_option maxRecDepth 100000 in
set_option maxHeartbeats 4000000 in
theorem b_X12_rests_61 {K : zK} {G : zG} (hK : zC K G cX12_rests RX12 9 1 24 (some .int)) {t0 : Nat} (ht0 : zT t0 = (11, 0)) {r : Int32 × zH} (hE : zE K G (some (.int r.1)) r.2) : ∀ (n : Nat) (x1 : Int32) (x2 : Int32) (x3 : Int32) (x4 : Int32) (x5 : Int32) (x6 : Int32) (h : zH), g_X12_rests_61 t0 n x1 x2 x3 x4 x5 x6 h = some r → zW K G 9 61 [(0, .ref (G.2.2.2 t0)), (1, .int x1), (2, .int x2), (3, .int x3), (4, .int x4), (5, .int x5), (6, .int x6)] [] h := by
  intro n
  induction n with
  | zero => intro x1 x2 x3 x4 x5 x6 h hg; exact nomatch (show none = some r from hg)
  | succ n ih =>
    intro x1 x2 x3 x4 x5 x6 h hg
    rw [g_X12_rests_61] at hg
    refine z_iload (pc := 61) hK 6 dX12_rests_61 rfl (z_iconst (pc := 63) hK dX12_rests_63 zc_i4 (z_icmp_ge (pc := 64) hK 151 dX12_rests_64 (by decide) (fun c_10 => ?_) (fun c_10 => ?_)))
    · rw [if_pos c_10] at hg
      refine z_aload_n (pc := 151) hK 0 dX12_rests_151 rfl (z_iload (pc := 152) hK 4 dX12_rests_152 rfl (z_iconst (pc := 154) hK dX12_rests_154 zc_im1 (z_icmp_ne (pc := 155) hK 162 dX12_rests_155 (by decide) (fun c_11 => ?_) (fun c_11 => ?_))))
      · rw [if_neg c_11] at hg
        exact z_iconst (pc := 162) hK dX12_rests_162 zc_i1 (zsub (lv' := [(4, .int x4), (5, .int x5)]) [4, 5] rfl (b_X12_rests_163 hK ht0 hE x4 x5 1 h hg))
      · rw [if_pos c_11] at hg
        exact z_iconst (pc := 158) hK dX12_rests_158 zc_i0 (z_goto (pc := 159) hK 163 dX12_rests_159 (by decide) (zsub (lv' := [(4, .int x4), (5, .int x5)]) [4, 5] rfl (b_X12_rests_163 hK ht0 hE x4 x5 0 h hg)))
    · rw [if_neg c_10] at hg
      obtain ⟨v_12, ev_12, hg⟩ := zlet_some hg
      obtain ⟨v_13, qv_13, hg⟩ := zbind_some hg
      obtain ⟨v_14, qv_14, hg⟩ := zbind_some hg
      refine z_iload (pc := 67) hK 6 dX12_rests_67 rfl (z_iconst (pc := 69) hK dX12_rests_69 zc_i2 (z_idiv (pc := 70) hK dX12_rests_70 (by decide) (z_istore (pc := 71) hK (lv' := [(7, .int (x6 / 2)), (0, .ref (G.2.2.2 t0)), (1, .int x1), (2, .int x2), (3, .int x3), (4, .int x4), (5, .int x5), (6, .int x6)]) dX12_rests_71 (by decide) rfl (z_iload (pc := 73) hK 7 dX12_rests_73 rfl (z_iconst (pc := 75) hK dX12_rests_75 zc_i2 (z_irem (pc := 76) hK dX12_rests_76 (by decide) (z_nameI ev_12 (z_istore (pc := 77) hK (lv' := [(8, .int v_12), (7, .int (x6 / 2)), (0, .ref (G.2.2.2 t0)), (1, .int x1), (2, .int x2), (3, .int x3), (4, .int x4), (5, .int x5), (6, .int x6)]) dX12_rests_77 (by decide) rfl (z_iload_n (pc := 79) hK 3 dX12_rests_79 rfl (z_iload_n (pc := 80) hK 4 dX12_rests_80 rfl (z_iload_n (pc := 81) hK 5 dX12_rests_81 rfl (z_iconst (pc := 82) hK dX12_rests_82 zc_i1 (z_iload (pc := 83) hK 1 dX12_rests_83 rfl (z_isub (pc := 85) hK dX12_rests_85 (z_iload (pc := 86) hK 0 dX12_rests_86 rfl (z_callSi (pc := 88) hK [.int x1, .int x2, .int x3, .int (1 - (x6 / 2)), .int v_12] (m_X12_getsBy (zC_D hK) qv_13) ss_X12_getsBy q_1852 rfl [] rfl (Nat.le_of_ble_eq_true rfl) ⟨by decide, by decide⟩ dX12_rests_88 (z_iload_n (pc := 91) hK 3 dX12_rests_91 rfl (z_iload_n (pc := 92) hK 4 dX12_rests_92 rfl (z_iload_n (pc := 93) hK 5 dX12_rests_93 rfl (z_iload (pc := 94) hK 1 dX12_rests_94 rfl (z_iload (pc := 96) hK 0 dX12_rests_96 rfl (z_callSi (pc := 98) hK [.int x1, .int x2, .int x3, .int (x6 / 2), .int v_12] (m_X12_getsBy (zC_D hK) qv_14) ss_X12_getsBy q_1852 rfl [.int v_13] rfl (Nat.le_of_ble_eq_true rfl) ⟨by decide, by decide⟩ dX12_rests_98 (z_icmp_gt (pc := 101) hK 145 dX12_rests_101 (by decide) (fun c_15 => ?_) (fun c_15 => ?_))))))))))))))))))))))))
      · rw [if_pos c_15] at hg
        exact z_iinc (pc := 145) hK 8 (lv' := [(6, .int (x6 + 1)), (8, .int v_12), (7, .int (x6 / 2)), (0, .ref (G.2.2.2 t0)), (1, .int x1), (2, .int x2), (3, .int x3), (4, .int x4), (5, .int x5)]) dX12_rests_145 rfl (zc_n1 _) (by decide) rfl (z_goto (pc := 148) hK 61 dX12_rests_148 (by decide) (zsub (lv' := [(0, .ref (G.2.2.2 t0)), (1, .int x1), (2, .int x2), (3, .int x3), (4, .int x4), (5, .int x5), (6, .int (x6 + 1))]) [3, 4, 5, 6, 7, 8, 0] rfl (ih x1 x2 x3 x4 x5 (x6 + 1) h hg)))
      · rw [if_neg c_15] at hg
        obtain ⟨v_16, qv_16, hg⟩ := zbind_some hg
        obtain ⟨v_17, qv_17, hg⟩ := zbind_some hg
        refine z_iload_n (pc := 104) hK 3 dX12_rests_104 rfl (z_iload_n (pc := 105) hK 4 dX12_rests_105 rfl (z_iload_n (pc := 106) hK 5 dX12_rests_106 rfl (z_iconst (pc := 107) hK dX12_rests_107 zc_i1 (z_iload (pc := 108) hK 0 dX12_rests_108 rfl (z_isub (pc := 110) hK dX12_rests_110 (z_iload (pc := 111) hK 1 dX12_rests_111 rfl (z_callSi (pc := 113) hK [.int x1, .int x2, .int x3, .int (1 - v_12), .int (x6 / 2)] (m_X12_getsBy (zC_D hK) qv_16) ss_X12_getsBy q_1852 rfl [] rfl (Nat.le_of_ble_eq_true rfl) ⟨by decide, by decide⟩ dX12_rests_113 (z_iload_n (pc := 116) hK 3 dX12_rests_116 rfl (z_iload_n (pc := 117) hK 4 dX12_rests_117 rfl (z_iload_n (pc := 118) hK 5 dX12_rests_118 rfl (z_iload (pc := 119) hK 0 dX12_rests_119 rfl (z_iload (pc := 121) hK 1 dX12_rests_121 rfl (z_callSi (pc := 123) hK [.int x1, .int x2, .int x3, .int v_12, .int (x6 / 2)] (m_X12_getsBy (zC_D hK) qv_17) ss_X12_getsBy q_1852 rfl [.int v_16] rfl (Nat.le_of_ble_eq_true rfl) ⟨by decide, by decide⟩ dX12_rests_123 (z_icmp_le (pc := 126) hK 132 dX12_rests_126 (by decide) (fun c_18 => ?_) (fun c_18 => ?_)))))))))))))))
        · rw [if_pos c_18] at hg
          refine z_iload (pc := 132) hK 7 dX12_rests_132 rfl (z_iload (pc := 134) hK 6 dX12_rests_134 rfl (z_icmp_ne (pc := 136) hK 142 dX12_rests_136 (by decide) (fun c_19 => ?_) (fun c_19 => ?_)))
          · rw [if_neg c_19] at hg
            exact z_iinc (pc := 142) hK 7 (lv' := [(5, .int (x5 + 1)), (8, .int v_12), (7, .int (x6 / 2)), (0, .ref (G.2.2.2 t0)), (1, .int x1), (2, .int x2), (3, .int x3), (4, .int x4), (6, .int x6)]) dX12_rests_142 rfl (zc_n1 _) (by decide) rfl (z_iinc (pc := 145) hK 8 (lv' := [(6, .int (x6 + 1)), (5, .int (x5 + 1)), (8, .int v_12), (7, .int (x6 / 2)), (0, .ref (G.2.2.2 t0)), (1, .int x1), (2, .int x2), (3, .int x3), (4, .int x4)]) dX12_rests_145 rfl (zc_n1 _) (by decide) rfl (z_goto (pc := 148) hK 61 dX12_rests_148 (by decide) (zsub (lv' := [(0, .ref (G.2.2.2 t0)), (1, .int x1), (2, .int x2), (3, .int x3), (4, .int x4), (5, .int (x5 + 1)), (6, .int (x6 + 1))]) [4, 5, 6, 7, 8, 1, 0] rfl (ih x1 x2 x3 x4 (x5 + 1) (x6 + 1) h hg))))
          · rw [if_pos c_19] at hg
            exact z_iload (pc := 139) hK 8 dX12_rests_139 rfl (z_iretE (pc := 141) hK hE hg dX12_rests_141)
        · rw [if_neg c_18] at hg
          exact z_goto (pc := 129) hK 145 dX12_rests_129 (by decide) (z_iinc (pc := 145) hK 8 (lv' := [(6, .int (x6 + 1)), (8, .int v_12), (7, .int (x6 / 2)), (0, .ref (G.2.2.2 t0)), (1, .int x1), (2, .int x2), (3, .int x3), (4, .int x4), (5, .int x5)]) dX12_rests_145 rfl (zc_n1 _) (by decide) rfl (z_goto (pc := 148) hK 61 dX12_rests_148 (by decide) (zsub (lv' := [(0, .ref (G.2.2.2 t0)), (1, .int x1), (2, .int x2), (3, .int x3), (4, .int x4), (5, .int x5), (6, .int (x6 + 1))]) [3, 4, 5, 6, 7, 8, 0] rfl (ih x1 x2 x3 x4 x5 (x6 + 1) h hg))))
set_option maxRecDepth 100000 in
set_option maxHeartbeats 4000000 in
theorem b_X12_rests_42 {K : zK} {G : zG} (hK : zC K G cX12_rests RX12 9 1 24 (some .int)) {t0 : Nat} (ht0 : zT t0 = (11, 0)) {r : Int32 × zH} (hE : zE K G (some (.int r.1)) r.2) (x1 : Int32) (x2 : Int32) (x3 : Int32) (x4 : Int32) (s0 : Int32) (h : zH) (hg : g_X12_rests_42 t0 x1 x2 x3 x4 s0 h = some r) : zW K G 9 42 [(0, .ref (G.2.2.2 t0)), (1, .int x1), (2, .int x2), (3, .int x3), (4, .int x4)] [.int s0, .ref (G.2.2.2 t0)] h := by
  rw [g_X12_rests_42] at hg
  obtain ⟨h_8, eh_8, hg⟩ := zlet_some hg
  refine z_putI (pc := 42) hK f_X12_126_11 fp_11_0 ht0 dX12_rests_42 (z_nameH eh_8 (z_aload_n (pc := 45) hK 0 dX12_rests_45 rfl (z_getI (pc := 46) hK f_X12_126_11 ht0 dX12_rests_46 (z_iconst (pc := 49) hK dX12_rests_49 zc_i1 (z_icmp_ne (pc := 50) hK 55 dX12_rests_50 (by decide) (fun c_9 => ?_) (fun c_9 => ?_))))))
  · rw [if_neg c_9] at hg
    exact z_iconst (pc := 55) hK dX12_rests_55 zc_i0 (z_istore (pc := 56) hK (lv' := [(5, .int 0), (0, .ref (G.2.2.2 t0)), (1, .int x1), (2, .int x2), (3, .int x3), (4, .int x4)]) dX12_rests_56 (by decide) rfl (z_iconst (pc := 58) hK dX12_rests_58 zc_i0 (z_istore (pc := 59) hK (lv' := [(6, .int 0), (5, .int 0), (0, .ref (G.2.2.2 t0)), (1, .int x1), (2, .int x2), (3, .int x3), (4, .int x4)]) dX12_rests_59 (by decide) rfl (zsub (lv' := [(0, .ref (G.2.2.2 t0)), (1, .int x1), (2, .int x2), (3, .int x3), (4, .int x4), (5, .int 0), (6, .int 0)]) [2, 3, 4, 5, 6, 1, 0] rfl (b_X12_rests_61 hK ht0 hE zfu x1 x2 x3 x4 0 0 h_8 hg)))))
  · rw [if_pos c_9] at hg
    exact z_iconst (pc := 53) hK dX12_rests_53 zc_i0 (z_iretE (pc := 54) hK hE hg dX12_rests_54)
set_option maxRecDepth 100000 in
set_option maxHeartbeats 4000000 in
theorem b_X12_rests_41 {K : zK} {G : zG} (hK : zC K G cX12_rests RX12 9 1 24 (some .int)) {t0 : Nat} (ht0 : zT t0 = (11, 0)) {r : Int32 × zH} (hE : zE K G (some (.int r.1)) r.2) (x1 : Int32) (x2 : Int32) (x3 : Int32) (x4 : Int32) (h : zH) (hg : g_X12_rests_41 t0 x1 x2 x3 x4 h = some r) : zW K G 9 41 [(0, .ref (G.2.2.2 t0)), (1, .int x1), (2, .int x2), (3, .int x3), (4, .int x4)] [.ref (G.2.2.2 t0)] h := by
  rw [g_X12_rests_41] at hg
  exact z_iconst (pc := 41) hK dX12_rests_41 zc_i1 (zsub (lv' := [(0, .ref (G.2.2.2 t0)), (1, .int x1), (2, .int x2), (3, .int x3), (4, .int x4)]) [0, 1, 2, 3, 4] rfl (b_X12_rests_42 hK ht0 hE x1 x2 x3 x4 1 h hg))
set_option maxRecDepth 100000 in
set_option maxHeartbeats 4000000 in
theorem b_X12_rests {K : zK} {G : zG} (hK : zC K G cX12_rests RX12 9 1 24 (some .int)) {h : zH} {t0 : Nat} {x1 : Int32} {x2 : Int32} {x3 : Int32} {x4 : Int32} (ht0 : zT t0 = (11, 0)) {r : Int32 × zH} (hE : zE K G (some (.int r.1)) r.2) (hg : g_X12_rests h t0 x1 x2 x3 x4 = some r) : zW K G 9 0 [(0, .ref (G.2.2.2 t0)), (1, .int x1), (2, .int x2), (3, .int x3), (4, .int x4)] [] h := by
  rw [g_X12_rests] at hg
  obtain ⟨v_1, qv_1, hg⟩ := zbind_some hg
  refine z_aload_n (pc := 0) hK 0 dX12_rests_0 rfl (z_iload_n (pc := 1) hK 1 dX12_rests_1 rfl (z_iconst (pc := 2) hK dX12_rests_2 zc_i0 (z_bipush (pc := 3) hK dX12_rests_3 zc_b9 (z_callSi (pc := 5) hK [.int x1, .int 0, .int 9] (m_X12_within (zC_D hK) qv_1) ss_X12_within q_1538 rfl [.ref (G.2.2.2 t0)] rfl (Nat.le_of_ble_eq_true rfl) ⟨by decide, by decide⟩ dX12_rests_5 (z_if_eq (pc := 8) hK 41 dX12_rests_8 (by decide) (fun c_2 => ?_) (fun c_2 => ?_))))))
  · rw [if_pos c_2] at hg
    exact zsub (lv' := [(0, .ref (G.2.2.2 t0)), (1, .int x1), (2, .int x2), (3, .int x3), (4, .int x4)]) [0, 1, 2, 3, 4] rfl (b_X12_rests_41 hK ht0 hE x1 x2 x3 x4 h hg)
  · rw [if_neg c_2] at hg
    obtain ⟨v_3, qv_3, hg⟩ := zbind_some hg
    refine z_iload_n (pc := 11) hK 2 dX12_rests_11 rfl (z_iconst (pc := 12) hK dX12_rests_12 zc_i0 (z_bipush (pc := 13) hK dX12_rests_13 zc_b9 (z_callSi (pc := 15) hK [.int x2, .int 0, .int 9] (m_X12_within (zC_D hK) qv_3) ss_X12_within q_1538 rfl [.ref (G.2.2.2 t0)] rfl (Nat.le_of_ble_eq_true rfl) ⟨by decide, by decide⟩ dX12_rests_15 (z_if_eq (pc := 18) hK 41 dX12_rests_18 (by decide) (fun c_4 => ?_) (fun c_4 => ?_)))))
    · rw [if_pos c_4] at hg
      exact zsub (lv' := [(0, .ref (G.2.2.2 t0)), (1, .int x1), (2, .int x2), (3, .int x3), (4, .int x4)]) [0, 1, 2, 3, 4] rfl (b_X12_rests_41 hK ht0 hE x1 x2 x3 x4 h hg)
    · rw [if_neg c_4] at hg
      obtain ⟨v_5, qv_5, hg⟩ := zbind_some hg
      refine z_iload_n (pc := 21) hK 3 dX12_rests_21 rfl (z_iconst (pc := 22) hK dX12_rests_22 zc_i0 (z_bipush (pc := 23) hK dX12_rests_23 zc_b9 (z_callSi (pc := 25) hK [.int x3, .int 0, .int 9] (m_X12_within (zC_D hK) qv_5) ss_X12_within q_1538 rfl [.ref (G.2.2.2 t0)] rfl (Nat.le_of_ble_eq_true rfl) ⟨by decide, by decide⟩ dX12_rests_25 (z_if_eq (pc := 28) hK 41 dX12_rests_28 (by decide) (fun c_6 => ?_) (fun c_6 => ?_)))))
      · rw [if_pos c_6] at hg
        exact zsub (lv' := [(0, .ref (G.2.2.2 t0)), (1, .int x1), (2, .int x2), (3, .int x3), (4, .int x4)]) [0, 1, 2, 3, 4] rfl (b_X12_rests_41 hK ht0 hE x1 x2 x3 x4 h hg)
      · rw [if_neg c_6] at hg
        refine z_iload (pc := 31) hK 4 dX12_rests_31 rfl (z_iconst (pc := 33) hK dX12_rests_33 zc_im1 (z_icmp_lt (pc := 34) hK 41 dX12_rests_34 (by decide) (fun c_7 => ?_) (fun c_7 => ?_)))
        · rw [if_pos c_7] at hg
          exact zsub (lv' := [(0, .ref (G.2.2.2 t0)), (1, .int x1), (2, .int x2), (3, .int x3), (4, .int x4)]) [0, 1, 2, 3, 4] rfl (b_X12_rests_41 hK ht0 hE x1 x2 x3 x4 h hg)
        · rw [if_neg c_7] at hg
          exact z_iconst (pc := 37) hK dX12_rests_37 zc_i0 (z_goto (pc := 38) hK 42 dX12_rests_38 (by decide) (zsub (lv' := [(0, .ref (G.2.2.2 t0)), (1, .int x1), (2, .int x2), (3, .int x3), (4, .int x4)]) [0, 1, 2, 3, 4] rfl (b_X12_rests_42 hK ht0 hE x1 x2 x3 x4 0 h hg)))
theorem m_X12_rests {l : Launch} {G : zG} (hG : zD G) {h : zH} {t0 : Nat} {x1 : Int32} {x2 : Int32} {x3 : Int32} {x4 : Int32} (ht0 : zT t0 = (11, 0)) {r : Int32 × zH} (hg : g_X12_rests h t0 x1 x2 x3 x4 = some r) : zM l G yX12_rests cX12_rests 9 (some .int) 1 24 [.ref (G.2.2.2 t0), .int x1, .int x2, .int x3, .int x4] h (some (.int r.1)) r.2 :=
  zM_of hG pn_X12 (Nat.le_of_ble_eq_true rfl) (fun K _ hK hE => b_X12_rests hK ht0 hE hg)
