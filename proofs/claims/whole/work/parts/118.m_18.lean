theorem dX12_rule_0 : decode cX12_rule 0 = .ok (.aload_n 0, 1) := by decide +kernel
theorem dX12_rule_1 : decode cX12_rule 1 = .ok (.iconst 0, 1) := by decide +kernel
theorem dX12_rule_2 : decode cX12_rule 2 = .ok (.putfield 126, 3) := by decide +kernel
theorem dX12_rule_5 : decode cX12_rule 5 = .ok (.iload_n 1, 1) := by decide +kernel
theorem dX12_rule_6 : decode cX12_rule 6 = .ok (.iconst 1, 1) := by decide +kernel
theorem dX12_rule_7 : decode cX12_rule 7 = .ok (.bipush 30, 2) := by decide +kernel
theorem dX12_rule_9 : decode cX12_rule 9 = .ok (.invokestatic 259, 3) := by decide +kernel
theorem dX12_rule_12 : decode cX12_rule 12 = .ok (.ifCond .eq 13, 3) := by decide +kernel
theorem dX12_rule_15 : decode cX12_rule 15 = .ok (.iload_n 2, 1) := by decide +kernel
theorem dX12_rule_16 : decode cX12_rule 16 = .ok (.iconst 1, 1) := by decide +kernel
theorem dX12_rule_17 : decode cX12_rule 17 = .ok (.bipush 9, 2) := by decide +kernel
theorem dX12_rule_19 : decode cX12_rule 19 = .ok (.invokestatic 259, 3) := by decide +kernel
theorem dX12_rule_22 : decode cX12_rule 22 = .ok (.ifCond .ne 5, 3) := by decide +kernel
theorem dX12_rule_25 : decode cX12_rule 25 = .ok (.iconst (-1), 1) := by decide +kernel
theorem dX12_rule_26 : decode cX12_rule 26 = .ok (.ireturn, 1) := by decide +kernel
theorem dX12_rule_27 : decode cX12_rule 27 = .ok (.aload_n 0, 1) := by decide +kernel
theorem dX12_rule_28 : decode cX12_rule 28 = .ok (.getfield 105, 3) := by decide +kernel
theorem dX12_rule_31 : decode cX12_rule 31 = .ok (.iconst 0, 1) := by decide +kernel
theorem dX12_rule_32 : decode cX12_rule 32 = .ok (.aload_n 0, 1) := by decide +kernel
theorem dX12_rule_33 : decode cX12_rule 33 = .ok (.getfield 108, 3) := by decide +kernel
theorem dX12_rule_36 : decode cX12_rule 36 = .ok (.iconst 0, 1) := by decide +kernel
theorem dX12_rule_37 : decode cX12_rule 37 = .ok (.invokestatic 409, 3) := by decide +kernel
theorem dX12_rule_40 : decode cX12_rule 40 = .ok (.iconst 0, 1) := by decide +kernel
theorem dX12_rule_41 : decode cX12_rule 41 = .ok (.istore_n 3, 1) := by decide +kernel
theorem dX12_rule_42 : decode cX12_rule 42 = .ok (.iconst 0, 1) := by decide +kernel
theorem dX12_rule_43 : decode cX12_rule 43 = .ok (.istore 4, 2) := by decide +kernel
theorem dX12_rule_45 : decode cX12_rule 45 = .ok (.iload 4, 2) := by decide +kernel
theorem dX12_rule_47 : decode cX12_rule 47 = .ok (.iload_n 1, 1) := by decide +kernel
theorem dX12_rule_48 : decode cX12_rule 48 = .ok (.if_icmp .ge 21, 3) := by decide +kernel
theorem dX12_rule_51 : decode cX12_rule 51 = .ok (.aload_n 0, 1) := by decide +kernel
theorem dX12_rule_52 : decode cX12_rule 52 = .ok (.invokevirtual 437, 3) := by decide +kernel
theorem dX12_rule_55 : decode cX12_rule 55 = .ok (.iload_n 3, 1) := by decide +kernel
theorem dX12_rule_56 : decode cX12_rule 56 = .ok (.aload_n 0, 1) := by decide +kernel
theorem dX12_rule_57 : decode cX12_rule 57 = .ok (.iload_n 2, 1) := by decide +kernel
theorem dX12_rule_58 : decode cX12_rule 58 = .ok (.invokevirtual 425, 3) := by decide +kernel
theorem dX12_rule_61 : decode cX12_rule 61 = .ok (.iadd, 1) := by decide +kernel
theorem dX12_rule_62 : decode cX12_rule 62 = .ok (.istore_n 3, 1) := by decide +kernel
theorem dX12_rule_63 : decode cX12_rule 63 = .ok (.iinc 4 1, 3) := by decide +kernel
theorem dX12_rule_66 : decode cX12_rule 66 = .ok (.goto (-21), 3) := by decide +kernel
theorem dX12_rule_69 : decode cX12_rule 69 = .ok (.aload_n 0, 1) := by decide +kernel
theorem dX12_rule_70 : decode cX12_rule 70 = .ok (.getfield 108, 3) := by decide +kernel
theorem dX12_rule_73 : decode cX12_rule 73 = .ok (.iconst 0, 1) := by decide +kernel
theorem dX12_rule_74 : decode cX12_rule 74 = .ok (.aload_n 0, 1) := by decide +kernel
theorem dX12_rule_75 : decode cX12_rule 75 = .ok (.getfield 105, 3) := by decide +kernel
theorem dX12_rule_78 : decode cX12_rule 78 = .ok (.iconst 0, 1) := by decide +kernel
theorem dX12_rule_79 : decode cX12_rule 79 = .ok (.invokestatic 409, 3) := by decide +kernel
theorem dX12_rule_82 : decode cX12_rule 82 = .ok (.iload_n 3, 1) := by decide +kernel
theorem dX12_rule_83 : decode cX12_rule 83 = .ok (.ireturn, 1) := by decide +kernel
def g_X12_rule_45 (t0 : Nat)  : Nat → Int32 → Int32 → Int32 → Int32 → zH → Option (Int32 × zH)
  | 0, _, _, _, _, _ => none
  | n + 1, x1, x2, x3, x4, h => if x1 ≤ x4 then ((g_X12_copies h (zR t0 45) 107 0 (zR t0 44) 107 0).bind fun v_8 => some (x3, v_8)) else ((g_X12_taxesIfCan h t0).bind fun v_9 => (g_X12_passes v_9 t0 x2).bind fun v_10 => g_X12_rule_45 t0 n x1 x2 (x3 + v_10.1) (x4 + 1) v_10.2)
def g_X12_rule (h : zH) (t0 : Nat) (x1 : Int32) (x2 : Int32) : Option (Int32 × zH) := zlet (zpi h t0 0 0) fun h_1 => (g_X12_within h_1 x1 1 30).bind fun v_2 => if (zb v_2) = 0 then (some ((-1), h_1)) else ((g_X12_within h_1 x2 1 9).bind fun v_4 => if (zb v_4) = 0 then (some ((-1), h_1)) else ((g_X12_copies h_1 (zR t0 44) 107 0 (zR t0 45) 107 0).bind fun v_6 => g_X12_rule_45 t0 zfu x1 x2 0 0 v_6))
set_option maxRecDepth 100000 in
set_option maxHeartbeats 4000000 in
theorem b_X12_rule_45 {K : zK} {G : zG} (hK : zC K G cX12_rule RX12 5 6 137 (some .int)) {t0 : Nat} (ht0 : zT t0 = (11, 0)) {r : Int32 × zH} (hE : zE K G (some (.int r.1)) r.2) : ∀ (n : Nat) (x1 : Int32) (x2 : Int32) (x3 : Int32) (x4 : Int32) (h : zH), g_X12_rule_45 t0 n x1 x2 x3 x4 h = some r → zW K G 5 45 [(0, .ref (G.2.2.2 t0)), (1, .int x1), (2, .int x2), (3, .int x3), (4, .int x4)] [] h := by
  intro n
  induction n with
  | zero => intro x1 x2 x3 x4 h hg; exact nomatch (show none = some r from hg)
  | succ n ih =>
    intro x1 x2 x3 x4 h hg
    rw [g_X12_rule_45] at hg
    refine z_iload (pc := 45) hK 4 dX12_rule_45 rfl (z_iload_n (pc := 47) hK 1 dX12_rule_47 rfl (z_icmp_ge (pc := 48) hK 69 dX12_rule_48 (by decide) (fun c_7 => ?_) (fun c_7 => ?_)))
    · rw [if_pos c_7] at hg
      obtain ⟨v_8, qv_8, hg⟩ := zbind_some hg
      exact z_aload_n (pc := 69) hK 0 dX12_rule_69 rfl (z_getR (pc := 70) hK f_X12_108_11 ht0 dX12_rule_70 (z_iconst (pc := 73) hK dX12_rule_73 zc_i0 (z_aload_n (pc := 74) hK 0 dX12_rule_74 rfl (z_getR (pc := 75) hK f_X12_105_11 ht0 dX12_rule_75 (z_iconst (pc := 78) hK dX12_rule_78 zc_i0 (z_callSv (pc := 79) hK [.ref (G.2.2.2 (zR t0 45)), .int 0, .ref (G.2.2.2 (zR t0 44)), .int 0] (m_X12_copies (zC_D hK) (zt_11_45 ht0) (zt_11_44 ht0) qv_8) ss_X12_copies q_1676 rfl [] rfl (Nat.le_of_ble_eq_true rfl) ⟨by decide, by decide⟩ dX12_rule_79 (z_iload_n (pc := 82) hK 3 dX12_rule_82 rfl (z_iretE (pc := 83) hK hE hg dX12_rule_83))))))))
    · rw [if_neg c_7] at hg
      obtain ⟨v_9, qv_9, hg⟩ := zbind_some hg
      obtain ⟨v_10, qv_10, hg⟩ := zbind_some hg
      exact z_aload_n (pc := 51) hK 0 dX12_rule_51 rfl (z_callVv (pc := 52) hK [] (m_X12_taxesIfCan (zC_D hK) ht0 qv_9) sv_X12_taxesIfCan q_1796 ht0 rfl [] rfl (Nat.le_of_ble_eq_true rfl) ⟨by decide, by decide⟩ dX12_rule_52 (z_iload_n (pc := 55) hK 3 dX12_rule_55 rfl (z_aload_n (pc := 56) hK 0 dX12_rule_56 rfl (z_iload_n (pc := 57) hK 2 dX12_rule_57 rfl (z_callVi (pc := 58) hK [.int x2] (m_X12_passes (zC_D hK) ht0 qv_10) sv_X12_passes q_1740 ht0 rfl [.int x3] rfl (Nat.le_of_ble_eq_true rfl) ⟨by decide, by decide⟩ dX12_rule_58 (z_iadd (pc := 61) hK dX12_rule_61 (z_istore_n (pc := 62) hK (lv' := [(3, .int (x3 + v_10.1)), (0, .ref (G.2.2.2 t0)), (1, .int x1), (2, .int x2), (4, .int x4)]) dX12_rule_62 (by decide) rfl (z_iinc (pc := 63) hK 4 (lv' := [(4, .int (x4 + 1)), (3, .int (x3 + v_10.1)), (0, .ref (G.2.2.2 t0)), (1, .int x1), (2, .int x2)]) dX12_rule_63 rfl (zc_n1 _) (by decide) rfl (z_goto (pc := 66) hK 45 dX12_rule_66 (by decide) (zsub (lv' := [(0, .ref (G.2.2.2 t0)), (1, .int x1), (2, .int x2), (3, .int (x3 + v_10.1)), (4, .int (x4 + 1))]) [2, 3, 4, 1, 0] rfl (ih x1 x2 (x3 + v_10.1) (x4 + 1) v_10.2 hg)))))))))))
set_option maxRecDepth 100000 in
set_option maxHeartbeats 4000000 in
theorem b_X12_rule {K : zK} {G : zG} (hK : zC K G cX12_rule RX12 5 6 137 (some .int)) {h : zH} {t0 : Nat} {x1 : Int32} {x2 : Int32} (ht0 : zT t0 = (11, 0)) {r : Int32 × zH} (hE : zE K G (some (.int r.1)) r.2) (hg : g_X12_rule h t0 x1 x2 = some r) : zW K G 5 0 [(0, .ref (G.2.2.2 t0)), (1, .int x1), (2, .int x2)] [] h := by
  rw [g_X12_rule] at hg
  obtain ⟨h_1, eh_1, hg⟩ := zlet_some hg
  obtain ⟨v_2, qv_2, hg⟩ := zbind_some hg
  refine z_aload_n (pc := 0) hK 0 dX12_rule_0 rfl (z_iconst (pc := 1) hK dX12_rule_1 zc_i0 (z_putI (pc := 2) hK f_X12_126_11 fp_11_0 ht0 dX12_rule_2 (z_nameH eh_1 (z_iload_n (pc := 5) hK 1 dX12_rule_5 rfl (z_iconst (pc := 6) hK dX12_rule_6 zc_i1 (z_bipush (pc := 7) hK dX12_rule_7 zc_b30 (z_callSi (pc := 9) hK [.int x1, .int 1, .int 30] (m_X12_within (zC_D hK) qv_2) ss_X12_within q_1538 rfl [] rfl (Nat.le_of_ble_eq_true rfl) ⟨by decide, by decide⟩ dX12_rule_9 (z_if_eq (pc := 12) hK 25 dX12_rule_12 (by decide) (fun c_3 => ?_) (fun c_3 => ?_)))))))))
  · rw [if_pos c_3] at hg
    exact z_iconst (pc := 25) hK dX12_rule_25 zc_im1 (z_iretE (pc := 26) hK hE hg dX12_rule_26)
  · rw [if_neg c_3] at hg
    obtain ⟨v_4, qv_4, hg⟩ := zbind_some hg
    refine z_iload_n (pc := 15) hK 2 dX12_rule_15 rfl (z_iconst (pc := 16) hK dX12_rule_16 zc_i1 (z_bipush (pc := 17) hK dX12_rule_17 zc_b9 (z_callSi (pc := 19) hK [.int x2, .int 1, .int 9] (m_X12_within (zC_D hK) qv_4) ss_X12_within q_1538 rfl [] rfl (Nat.le_of_ble_eq_true rfl) ⟨by decide, by decide⟩ dX12_rule_19 (z_if_ne (pc := 22) hK 27 dX12_rule_22 (by decide) (fun c_5 => ?_) (fun c_5 => ?_)))))
    · rw [if_neg c_5] at hg
      obtain ⟨v_6, qv_6, hg⟩ := zbind_some hg
      exact z_aload_n (pc := 27) hK 0 dX12_rule_27 rfl (z_getR (pc := 28) hK f_X12_105_11 ht0 dX12_rule_28 (z_iconst (pc := 31) hK dX12_rule_31 zc_i0 (z_aload_n (pc := 32) hK 0 dX12_rule_32 rfl (z_getR (pc := 33) hK f_X12_108_11 ht0 dX12_rule_33 (z_iconst (pc := 36) hK dX12_rule_36 zc_i0 (z_callSv (pc := 37) hK [.ref (G.2.2.2 (zR t0 44)), .int 0, .ref (G.2.2.2 (zR t0 45)), .int 0] (m_X12_copies (zC_D hK) (zt_11_44 ht0) (zt_11_45 ht0) qv_6) ss_X12_copies q_1676 rfl [] rfl (Nat.le_of_ble_eq_true rfl) ⟨by decide, by decide⟩ dX12_rule_37 (z_iconst (pc := 40) hK dX12_rule_40 zc_i0 (z_istore_n (pc := 41) hK (lv' := [(3, .int 0), (0, .ref (G.2.2.2 t0)), (1, .int x1), (2, .int x2)]) dX12_rule_41 (by decide) rfl (z_iconst (pc := 42) hK dX12_rule_42 zc_i0 (z_istore (pc := 43) hK (lv' := [(4, .int 0), (3, .int 0), (0, .ref (G.2.2.2 t0)), (1, .int x1), (2, .int x2)]) dX12_rule_43 (by decide) rfl (zsub (lv' := [(0, .ref (G.2.2.2 t0)), (1, .int x1), (2, .int x2), (3, .int 0), (4, .int 0)]) [2, 3, 4, 1, 0] rfl (b_X12_rule_45 hK ht0 hE zfu x1 x2 0 0 v_6 hg))))))))))))
    · rw [if_pos c_5] at hg
      exact z_iconst (pc := 25) hK dX12_rule_25 zc_im1 (z_iretE (pc := 26) hK hE hg dX12_rule_26)
theorem m_X12_rule {l : Launch} {G : zG} (hG : zD G) {h : zH} {t0 : Nat} {x1 : Int32} {x2 : Int32} (ht0 : zT t0 = (11, 0)) {r : Int32 × zH} (hg : g_X12_rule h t0 x1 x2 = some r) : zM l G yX12_rule cX12_rule 5 (some .int) 6 137 [.ref (G.2.2.2 t0), .int x1, .int x2] h (some (.int r.1)) r.2 :=
  zM_of hG pn_X12 (Nat.le_of_ble_eq_true rfl) (fun K _ hK hE => b_X12_rule hK ht0 hE hg)
theorem dX12_draws_0 : decode cX12_draws 0 = .ok (.aload_n 0, 1) := by decide +kernel
theorem dX12_draws_1 : decode cX12_draws 1 = .ok (.aload_n 0, 1) := by decide +kernel
theorem dX12_draws_2 : decode cX12_draws 2 = .ok (.getfield 462, 3) := by decide +kernel
theorem dX12_draws_5 : decode cX12_draws 5 = .ok (.ldc2_w 465, 3) := by decide +kernel
theorem dX12_draws_8 : decode cX12_draws 8 = .ok (.lmul, 1) := by decide +kernel
theorem dX12_draws_9 : decode cX12_draws 9 = .ok (.ldc2_w 467, 3) := by decide +kernel
theorem dX12_draws_12 : decode cX12_draws 12 = .ok (.ladd, 1) := by decide +kernel
theorem dX12_draws_13 : decode cX12_draws 13 = .ok (.ldc2_w 469, 3) := by decide +kernel
theorem dX12_draws_16 : decode cX12_draws 16 = .ok (.lrem, 1) := by decide +kernel
theorem dX12_draws_17 : decode cX12_draws 17 = .ok (.putfield 462, 3) := by decide +kernel
theorem dX12_draws_20 : decode cX12_draws 20 = .ok (.aload_n 0, 1) := by decide +kernel
theorem dX12_draws_21 : decode cX12_draws 21 = .ok (.getfield 462, 3) := by decide +kernel
theorem dX12_draws_24 : decode cX12_draws 24 = .ok (.ldc2_w 471, 3) := by decide +kernel
theorem dX12_draws_27 : decode cX12_draws 27 = .ok (.ldiv, 1) := by decide +kernel
theorem dX12_draws_28 : decode cX12_draws 28 = .ok (.iload_n 1, 1) := by decide +kernel
theorem dX12_draws_29 : decode cX12_draws 29 = .ok (.i2l, 1) := by decide +kernel
theorem dX12_draws_30 : decode cX12_draws 30 = .ok (.lrem, 1) := by decide +kernel
theorem dX12_draws_31 : decode cX12_draws 31 = .ok (.l2i, 1) := by decide +kernel
theorem dX12_draws_32 : decode cX12_draws 32 = .ok (.ireturn, 1) := by decide +kernel
def g_X12_draws (h : zH) (t0 : Nat) (x1 : Int32) : Option (Int32 × zH) := zlet (zpl h t0 51 ((((h.2 t0 51) * 1103515245) + 12345) - (((h.2 t0 51) * 1103515245) + 12345) / 2147483648 * 2147483648)) fun h_1 => zgu (x1.toInt64 != 0) <| some ((((h_1.2 t0 51) / 65536) - ((h_1.2 t0 51) / 65536) / x1.toInt64 * x1.toInt64).toInt32, h_1)
set_option maxRecDepth 100000 in
set_option maxHeartbeats 4000000 in
theorem b_X12_draws {K : zK} {G : zG} (hK : zC K G cX12_draws RX12 2 0 0 (some .int)) {h : zH} {t0 : Nat} {x1 : Int32} (ht0 : zT t0 = (11, 0)) {r : Int32 × zH} (hE : zE K G (some (.int r.1)) r.2) (hg : g_X12_draws h t0 x1 = some r) : zW K G 2 0 [(0, .ref (G.2.2.2 t0)), (1, .int x1)] [] h := by
  rw [g_X12_draws] at hg
  obtain ⟨h_1, eh_1, hg⟩ := zlet_some hg
  obtain ⟨c_2, hg⟩ := zgu_some hg
  exact z_aload_n (pc := 0) hK 0 dX12_draws_0 rfl (z_aload_n (pc := 1) hK 0 dX12_draws_1 rfl (z_getL (pc := 2) hK f_X12_462_11 ht0 dX12_draws_2 (z_ldc2 (pc := 5) hK q_1871 dX12_draws_5 (z_lmul (pc := 8) hK dX12_draws_8 (z_ldc2 (pc := 9) hK q_1872 dX12_draws_9 (z_ladd (pc := 12) hK dX12_draws_12 (z_ldc2 (pc := 13) hK q_1873 dX12_draws_13 (z_lrem (pc := 16) hK dX12_draws_16 (by decide) (z_putL (pc := 17) hK f_X12_462_11 fp_11_51 ht0 dX12_draws_17 (z_nameH eh_1 (z_aload_n (pc := 20) hK 0 dX12_draws_20 rfl (z_getL (pc := 21) hK f_X12_462_11 ht0 dX12_draws_21 (z_ldc2 (pc := 24) hK q_1874 dX12_draws_24 (z_ldiv (pc := 27) hK dX12_draws_27 (by decide) (z_iload_n (pc := 28) hK 1 dX12_draws_28 rfl (z_i2l (pc := 29) hK dX12_draws_29 rfl (z_lrem (pc := 30) hK dX12_draws_30 (zne0l c_2) (z_l2i (pc := 31) hK dX12_draws_31 rfl (z_iretE (pc := 32) hK hE hg dX12_draws_32)))))))))))))))))))
theorem m_X12_draws {l : Launch} {G : zG} (hG : zD G) {h : zH} {t0 : Nat} {x1 : Int32} (ht0 : zT t0 = (11, 0)) {r : Int32 × zH} (hg : g_X12_draws h t0 x1 = some r) : zM l G yX12_draws cX12_draws 2 (some .int) 0 0 [.ref (G.2.2.2 t0), .int x1] h (some (.int r.1)) r.2 :=
  zM_of hG pn_X12 (Nat.le_of_ble_eq_true rfl) (fun K _ hK hE => b_X12_draws hK ht0 hE hg)
theorem dX12_livesDay_0 : decode cX12_livesDay 0 = .ok (.iconst (-1), 1) := by decide +kernel
theorem dX12_livesDay_1 : decode cX12_livesDay 1 = .ok (.istore_n 1, 1) := by decide +kernel
theorem dX12_livesDay_2 : decode cX12_livesDay 2 = .ok (.aload_n 0, 1) := by decide +kernel
theorem dX12_livesDay_3 : decode cX12_livesDay 3 = .ok (.getfield 13, 3) := by decide +kernel
theorem dX12_livesDay_6 : decode cX12_livesDay 6 = .ok (.iconst 0, 1) := by decide +kernel
theorem dX12_livesDay_7 : decode cX12_livesDay 7 = .ok (.iaload, 1) := by decide +kernel
theorem dX12_livesDay_8 : decode cX12_livesDay 8 = .ok (.ifCond .le 41, 3) := by decide +kernel
theorem dX12_livesDay_11 : decode cX12_livesDay 11 = .ok (.aload_n 0, 1) := by decide +kernel
theorem dX12_livesDay_12 : decode cX12_livesDay 12 = .ok (.aload_n 0, 1) := by decide +kernel
theorem dX12_livesDay_13 : decode cX12_livesDay 13 = .ok (.getfield 13, 3) := by decide +kernel
theorem dX12_livesDay_16 : decode cX12_livesDay 16 = .ok (.iconst 0, 1) := by decide +kernel
theorem dX12_livesDay_17 : decode cX12_livesDay 17 = .ok (.iaload, 1) := by decide +kernel
theorem dX12_livesDay_18 : decode cX12_livesDay 18 = .ok (.invokevirtual 473, 3) := by decide +kernel
theorem dX12_livesDay_21 : decode cX12_livesDay 21 = .ok (.istore_n 1, 1) := by decide +kernel
theorem dX12_livesDay_22 : decode cX12_livesDay 22 = .ok (.aload_n 0, 1) := by decide +kernel
theorem dX12_livesDay_23 : decode cX12_livesDay 23 = .ok (.aload_n 0, 1) := by decide +kernel
theorem dX12_livesDay_24 : decode cX12_livesDay 24 = .ok (.getfield 13, 3) := by decide +kernel
theorem dX12_livesDay_27 : decode cX12_livesDay 27 = .ok (.iconst 0, 1) := by decide +kernel
theorem dX12_livesDay_28 : decode cX12_livesDay 28 = .ok (.iaload, 1) := by decide +kernel
theorem dX12_livesDay_29 : decode cX12_livesDay 29 = .ok (.invokevirtual 473, 3) := by decide +kernel
theorem dX12_livesDay_32 : decode cX12_livesDay 32 = .ok (.istore_n 2, 1) := by decide +kernel
theorem dX12_livesDay_33 : decode cX12_livesDay 33 = .ok (.aload_n 0, 1) := by decide +kernel
theorem dX12_livesDay_34 : decode cX12_livesDay 34 = .ok (.iload_n 1, 1) := by decide +kernel
theorem dX12_livesDay_35 : decode cX12_livesDay 35 = .ok (.iload_n 2, 1) := by decide +kernel
theorem dX12_livesDay_36 : decode cX12_livesDay 36 = .ok (.invokevirtual 416, 3) := by decide +kernel
theorem dX12_livesDay_39 : decode cX12_livesDay 39 = .ok (.ifCond .eq 10, 3) := by decide +kernel
theorem dX12_livesDay_42 : decode cX12_livesDay 42 = .ok (.aload_n 0, 1) := by decide +kernel
theorem dX12_livesDay_43 : decode cX12_livesDay 43 = .ok (.iload_n 1, 1) := by decide +kernel
theorem dX12_livesDay_44 : decode cX12_livesDay 44 = .ok (.iload_n 2, 1) := by decide +kernel
theorem dX12_livesDay_45 : decode cX12_livesDay 45 = .ok (.invokevirtual 419, 3) := by decide +kernel
theorem dX12_livesDay_48 : decode cX12_livesDay 48 = .ok (.pop, 1) := by decide +kernel
theorem dX12_livesDay_49 : decode cX12_livesDay 49 = .ok (.aload_n 0, 1) := by decide +kernel
theorem dX12_livesDay_50 : decode cX12_livesDay 50 = .ok (.iconst 2, 1) := by decide +kernel
theorem dX12_livesDay_51 : decode cX12_livesDay 51 = .ok (.invokevirtual 473, 3) := by decide +kernel
theorem dX12_livesDay_54 : decode cX12_livesDay 54 = .ok (.ifCond .ne 7, 3) := by decide +kernel
theorem dX12_livesDay_57 : decode cX12_livesDay 57 = .ok (.aload_n 0, 1) := by decide +kernel
theorem dX12_livesDay_58 : decode cX12_livesDay 58 = .ok (.invokevirtual 437, 3) := by decide +kernel
theorem dX12_livesDay_61 : decode cX12_livesDay 61 = .ok (.aload_n 0, 1) := by decide +kernel
theorem dX12_livesDay_62 : decode cX12_livesDay 62 = .ok (.bipush 20, 2) := by decide +kernel
theorem dX12_livesDay_64 : decode cX12_livesDay 64 = .ok (.invokevirtual 473, 3) := by decide +kernel
theorem dX12_livesDay_67 : decode cX12_livesDay 67 = .ok (.ifCond .ne 21, 3) := by decide +kernel
theorem dX12_livesDay_70 : decode cX12_livesDay 70 = .ok (.iload_n 1, 1) := by decide +kernel
theorem dX12_livesDay_71 : decode cX12_livesDay 71 = .ok (.ifCond .lt 17, 3) := by decide +kernel
theorem dX12_livesDay_74 : decode cX12_livesDay 74 = .ok (.aload_n 0, 1) := by decide +kernel
theorem dX12_livesDay_75 : decode cX12_livesDay 75 = .ok (.iload_n 1, 1) := by decide +kernel
theorem dX12_livesDay_76 : decode cX12_livesDay 76 = .ok (.invokevirtual 350, 3) := by decide +kernel
theorem dX12_livesDay_79 : decode cX12_livesDay 79 = .ok (.ifCond .eq 9, 3) := by decide +kernel
theorem dX12_livesDay_82 : decode cX12_livesDay 82 = .ok (.aload_n 0, 1) := by decide +kernel
theorem dX12_livesDay_83 : decode cX12_livesDay 83 = .ok (.iload_n 1, 1) := by decide +kernel
theorem dX12_livesDay_84 : decode cX12_livesDay 84 = .ok (.invokevirtual 422, 3) := by decide +kernel
theorem dX12_livesDay_87 : decode cX12_livesDay 87 = .ok (.pop, 1) := by decide +kernel
theorem dX12_livesDay_88 : decode cX12_livesDay 88 = .ok (.aload_n 0, 1) := by decide +kernel
theorem dX12_livesDay_89 : decode cX12_livesDay 89 = .ok (.aload_n 0, 1) := by decide +kernel
theorem dX12_livesDay_90 : decode cX12_livesDay 90 = .ok (.getfield 13, 3) := by decide +kernel
theorem dX12_livesDay_93 : decode cX12_livesDay 93 = .ok (.iconst 1, 1) := by decide +kernel
theorem dX12_livesDay_94 : decode cX12_livesDay 94 = .ok (.iaload, 1) := by decide +kernel
theorem dX12_livesDay_95 : decode cX12_livesDay 95 = .ok (.invokevirtual 425, 3) := by decide +kernel
theorem dX12_livesDay_98 : decode cX12_livesDay 98 = .ok (.ireturn, 1) := by decide +kernel
def g_X12_livesDay_88 (t0 : Nat)  (h : zH) : Option (Int32 × zH) := zgu (zin 1 8) <| (g_X12_passes h t0 (h.1 (zR t0 10) (zx 1))).bind fun v_20 => some (v_20.1, v_20.2)
def g_X12_livesDay_61 (t0 : Nat)  (x1 : Int32) (h : zH) : Option (Int32 × zH) := (g_X12_draws h t0 20).bind fun v_13 => if v_13.1 = 0 then (if x1 < 0 then (g_X12_livesDay_88 t0 v_13.2) else ((g_X12_isAlive v_13.2 t0 x1).bind fun v_16 => if (zb v_16) = 0 then (g_X12_livesDay_88 t0 v_13.2) else ((g_X12_dies v_13.2 t0 x1).bind fun v_18 => g_X12_livesDay_88 t0 v_18.2))) else (g_X12_livesDay_88 t0 v_13.2)
def g_X12_livesDay_49 (t0 : Nat)  (x1 : Int32) (h : zH) : Option (Int32 × zH) := (g_X12_draws h t0 2).bind fun v_10 => if v_10.1 = 0 then ((g_X12_taxesIfCan v_10.2 t0).bind fun v_12 => g_X12_livesDay_61 t0 x1 v_12) else (g_X12_livesDay_61 t0 x1 v_10.2)
def g_X12_livesDay (h : zH) (t0 : Nat) : Option (Int32 × zH) := zgu (zin 0 8) <| if (h.1 (zR t0 10) (zx 0)) ≤ 0 then (g_X12_livesDay_49 t0 (-1) h) else (zgu (zin 0 8) <| (g_X12_draws h t0 (h.1 (zR t0 10) (zx 0))).bind fun v_4 => zgu (zin 0 8) <| (g_X12_draws v_4.2 t0 (v_4.2.1 (zR t0 10) (zx 0))).bind fun v_6 => (g_X12_areAlive v_6.2 t0 v_4.1 v_6.1).bind fun v_7 => if (zb v_7) = 0 then (g_X12_livesDay_49 t0 v_4.1 v_6.2) else ((g_X12_gives v_6.2 t0 v_4.1 v_6.1).bind fun v_9 => g_X12_livesDay_49 t0 v_4.1 v_9.2))
set_option maxRecDepth 100000 in
set_option maxHeartbeats 4000000 in
theorem b_X12_livesDay_88 {K : zK} {G : zG} (hK : zC K G cX12_livesDay RX12 3 6 137 (some .int)) {t0 : Nat} (ht0 : zT t0 = (11, 0)) {r : Int32 × zH} (hE : zE K G (some (.int r.1)) r.2) (h : zH) (hg : g_X12_livesDay_88 t0 h = some r) : zW K G 3 88 [(0, .ref (G.2.2.2 t0))] [] h := by
  rw [g_X12_livesDay_88] at hg
  obtain ⟨c_19, hg⟩ := zgu_some hg
  obtain ⟨v_20, qv_20, hg⟩ := zbind_some hg
  exact z_aload_n (pc := 88) hK 0 dX12_livesDay_88 rfl (z_aload_n (pc := 89) hK 0 dX12_livesDay_89 rfl (z_getR (pc := 90) hK f_X12_13_11 ht0 dX12_livesDay_90 (z_iconst (pc := 93) hK dX12_livesDay_93 zc_i1 (z_iald (pc := 94) hK (zt_11_10 ht0) c_19 dX12_livesDay_94 (z_callVi (pc := 95) hK [.int (h.1 (zR t0 10) (zx 1))] (m_X12_passes (zC_D hK) ht0 qv_20) sv_X12_passes q_1740 ht0 rfl [] rfl (Nat.le_of_ble_eq_true rfl) ⟨by decide, by decide⟩ dX12_livesDay_95 (z_iretE (pc := 98) hK hE hg dX12_livesDay_98))))))
set_option maxRecDepth 100000 in
set_option maxHeartbeats 4000000 in
theorem b_X12_livesDay_61 {K : zK} {G : zG} (hK : zC K G cX12_livesDay RX12 3 6 137 (some .int)) {t0 : Nat} (ht0 : zT t0 = (11, 0)) {r : Int32 × zH} (hE : zE K G (some (.int r.1)) r.2) (x1 : Int32) (h : zH) (hg : g_X12_livesDay_61 t0 x1 h = some r) : zW K G 3 61 [(0, .ref (G.2.2.2 t0)), (1, .int x1)] [] h := by
  rw [g_X12_livesDay_61] at hg
  obtain ⟨v_13, qv_13, hg⟩ := zbind_some hg
  refine z_aload_n (pc := 61) hK 0 dX12_livesDay_61 rfl (z_bipush (pc := 62) hK dX12_livesDay_62 zc_b20 (z_callVi (pc := 64) hK [.int 20] (m_X12_draws (zC_D hK) ht0 qv_13) sv_X12_draws q_1867 ht0 rfl [] rfl (Nat.le_of_ble_eq_true rfl) ⟨by decide, by decide⟩ dX12_livesDay_64 (z_if_ne (pc := 67) hK 88 dX12_livesDay_67 (by decide) (fun c_14 => ?_) (fun c_14 => ?_))))
  · rw [if_neg c_14] at hg
    exact zsub (lv' := [(0, .ref (G.2.2.2 t0))]) [0] rfl (b_X12_livesDay_88 hK ht0 hE v_13.2 hg)
  · rw [if_pos c_14] at hg
    refine z_iload_n (pc := 70) hK 1 dX12_livesDay_70 rfl (z_if_lt (pc := 71) hK 88 dX12_livesDay_71 (by decide) (fun c_15 => ?_) (fun c_15 => ?_))
    · rw [if_pos c_15] at hg
      exact zsub (lv' := [(0, .ref (G.2.2.2 t0))]) [0] rfl (b_X12_livesDay_88 hK ht0 hE v_13.2 hg)
    · rw [if_neg c_15] at hg
      obtain ⟨v_16, qv_16, hg⟩ := zbind_some hg
      refine z_aload_n (pc := 74) hK 0 dX12_livesDay_74 rfl (z_iload_n (pc := 75) hK 1 dX12_livesDay_75 rfl (z_callVi (pc := 76) hK [.int x1] (m_X12_isAlive (zC_D hK) ht0 qv_16) sv_X12_isAlive q_1628 ht0 rfl [] rfl (Nat.le_of_ble_eq_true rfl) ⟨by decide, by decide⟩ dX12_livesDay_76 (z_if_eq (pc := 79) hK 88 dX12_livesDay_79 (by decide) (fun c_17 => ?_) (fun c_17 => ?_))))
      · rw [if_pos c_17] at hg
        exact zsub (lv' := [(0, .ref (G.2.2.2 t0))]) [0] rfl (b_X12_livesDay_88 hK ht0 hE v_13.2 hg)
      · rw [if_neg c_17] at hg
        obtain ⟨v_18, qv_18, hg⟩ := zbind_some hg
        exact z_aload_n (pc := 82) hK 0 dX12_livesDay_82 rfl (z_iload_n (pc := 83) hK 1 dX12_livesDay_83 rfl (z_callVi (pc := 84) hK [.int x1] (m_X12_dies (zC_D hK) ht0 qv_18) sv_X12_dies q_1732 ht0 rfl [] rfl (Nat.le_of_ble_eq_true rfl) ⟨by decide, by decide⟩ dX12_livesDay_84 (z_pop (pc := 87) hK dX12_livesDay_87 rfl (zsub (lv' := [(0, .ref (G.2.2.2 t0))]) [0] rfl (b_X12_livesDay_88 hK ht0 hE v_18.2 hg)))))
set_option maxRecDepth 100000 in
set_option maxHeartbeats 4000000 in
theorem b_X12_livesDay_49 {K : zK} {G : zG} (hK : zC K G cX12_livesDay RX12 3 6 137 (some .int)) {t0 : Nat} (ht0 : zT t0 = (11, 0)) {r : Int32 × zH} (hE : zE K G (some (.int r.1)) r.2) (x1 : Int32) (h : zH) (hg : g_X12_livesDay_49 t0 x1 h = some r) : zW K G 3 49 [(0, .ref (G.2.2.2 t0)), (1, .int x1)] [] h := by
  rw [g_X12_livesDay_49] at hg
  obtain ⟨v_10, qv_10, hg⟩ := zbind_some hg
  refine z_aload_n (pc := 49) hK 0 dX12_livesDay_49 rfl (z_iconst (pc := 50) hK dX12_livesDay_50 zc_i2 (z_callVi (pc := 51) hK [.int 2] (m_X12_draws (zC_D hK) ht0 qv_10) sv_X12_draws q_1867 ht0 rfl [] rfl (Nat.le_of_ble_eq_true rfl) ⟨by decide, by decide⟩ dX12_livesDay_51 (z_if_ne (pc := 54) hK 61 dX12_livesDay_54 (by decide) (fun c_11 => ?_) (fun c_11 => ?_))))
  · rw [if_neg c_11] at hg
    exact zsub (lv' := [(0, .ref (G.2.2.2 t0)), (1, .int x1)]) [0, 1] rfl (b_X12_livesDay_61 hK ht0 hE x1 v_10.2 hg)
  · rw [if_pos c_11] at hg
    obtain ⟨v_12, qv_12, hg⟩ := zbind_some hg
    exact z_aload_n (pc := 57) hK 0 dX12_livesDay_57 rfl (z_callVv (pc := 58) hK [] (m_X12_taxesIfCan (zC_D hK) ht0 qv_12) sv_X12_taxesIfCan q_1796 ht0 rfl [] rfl (Nat.le_of_ble_eq_true rfl) ⟨by decide, by decide⟩ dX12_livesDay_58 (zsub (lv' := [(0, .ref (G.2.2.2 t0)), (1, .int x1)]) [0, 1] rfl (b_X12_livesDay_61 hK ht0 hE x1 v_12 hg)))
set_option maxRecDepth 100000 in
set_option maxHeartbeats 4000000 in
theorem b_X12_livesDay {K : zK} {G : zG} (hK : zC K G cX12_livesDay RX12 3 6 137 (some .int)) {h : zH} {t0 : Nat} (ht0 : zT t0 = (11, 0)) {r : Int32 × zH} (hE : zE K G (some (.int r.1)) r.2) (hg : g_X12_livesDay h t0 = some r) : zW K G 3 0 [(0, .ref (G.2.2.2 t0))] [] h := by
  rw [g_X12_livesDay] at hg
  obtain ⟨c_1, hg⟩ := zgu_some hg
  refine z_iconst (pc := 0) hK dX12_livesDay_0 zc_im1 (z_istore_n (pc := 1) hK (lv' := [(1, .int (-1)), (0, .ref (G.2.2.2 t0))]) dX12_livesDay_1 (by decide) rfl (z_aload_n (pc := 2) hK 1 dX12_livesDay_2 rfl (z_getR (pc := 3) hK f_X12_13_11 ht0 dX12_livesDay_3 (z_iconst (pc := 6) hK dX12_livesDay_6 zc_i0 (z_iald (pc := 7) hK (zt_11_10 ht0) c_1 dX12_livesDay_7 (z_if_le (pc := 8) hK 49 dX12_livesDay_8 (by decide) (fun c_2 => ?_) (fun c_2 => ?_)))))))
  · rw [if_pos c_2] at hg
    exact zsub (lv' := [(0, .ref (G.2.2.2 t0)), (1, .int (-1))]) [1, 0] rfl (b_X12_livesDay_49 hK ht0 hE (-1) h hg)
  · rw [if_neg c_2] at hg
    obtain ⟨c_3, hg⟩ := zgu_some hg
    obtain ⟨v_4, qv_4, hg⟩ := zbind_some hg
    obtain ⟨c_5, hg⟩ := zgu_some hg
    obtain ⟨v_6, qv_6, hg⟩ := zbind_some hg
    obtain ⟨v_7, qv_7, hg⟩ := zbind_some hg
    refine z_aload_n (pc := 11) hK 1 dX12_livesDay_11 rfl (z_aload_n (pc := 12) hK 1 dX12_livesDay_12 rfl (z_getR (pc := 13) hK f_X12_13_11 ht0 dX12_livesDay_13 (z_iconst (pc := 16) hK dX12_livesDay_16 zc_i0 (z_iald (pc := 17) hK (zt_11_10 ht0) c_3 dX12_livesDay_17 (z_callVi (pc := 18) hK [.int (h.1 (zR t0 10) (zx 0))] (m_X12_draws (zC_D hK) ht0 qv_4) sv_X12_draws q_1867 ht0 rfl [] rfl (Nat.le_of_ble_eq_true rfl) ⟨by decide, by decide⟩ dX12_livesDay_18 (z_istore_n (pc := 21) hK (lv' := [(1, .int v_4.1), (0, .ref (G.2.2.2 t0))]) dX12_livesDay_21 (by decide) rfl (z_aload_n (pc := 22) hK 1 dX12_livesDay_22 rfl (z_aload_n (pc := 23) hK 1 dX12_livesDay_23 rfl (z_getR (pc := 24) hK f_X12_13_11 ht0 dX12_livesDay_24 (z_iconst (pc := 27) hK dX12_livesDay_27 zc_i0 (z_iald (pc := 28) hK (zt_11_10 ht0) c_5 dX12_livesDay_28 (z_callVi (pc := 29) hK [.int (v_4.2.1 (zR t0 10) (zx 0))] (m_X12_draws (zC_D hK) ht0 qv_6) sv_X12_draws q_1867 ht0 rfl [] rfl (Nat.le_of_ble_eq_true rfl) ⟨by decide, by decide⟩ dX12_livesDay_29 (z_istore_n (pc := 32) hK (lv' := [(2, .int v_6.1), (1, .int v_4.1), (0, .ref (G.2.2.2 t0))]) dX12_livesDay_32 (by decide) rfl (z_aload_n (pc := 33) hK 2 dX12_livesDay_33 rfl (z_iload_n (pc := 34) hK 1 dX12_livesDay_34 rfl (z_iload_n (pc := 35) hK 0 dX12_livesDay_35 rfl (z_callVi (pc := 36) hK [.int v_4.1, .int v_6.1] (m_X12_areAlive (zC_D hK) ht0 qv_7) sv_X12_areAlive q_1711 ht0 rfl [] rfl (Nat.le_of_ble_eq_true rfl) ⟨by decide, by decide⟩ dX12_livesDay_36 (z_if_eq (pc := 39) hK 49 dX12_livesDay_39 (by decide) (fun c_8 => ?_) (fun c_8 => ?_)))))))))))))))))))
    · rw [if_pos c_8] at hg
      exact zsub (lv' := [(0, .ref (G.2.2.2 t0)), (1, .int v_4.1)]) [2, 1] rfl (b_X12_livesDay_49 hK ht0 hE v_4.1 v_6.2 hg)
    · rw [if_neg c_8] at hg
      obtain ⟨v_9, qv_9, hg⟩ := zbind_some hg
      exact z_aload_n (pc := 42) hK 2 dX12_livesDay_42 rfl (z_iload_n (pc := 43) hK 1 dX12_livesDay_43 rfl (z_iload_n (pc := 44) hK 0 dX12_livesDay_44 rfl (z_callVi (pc := 45) hK [.int v_4.1, .int v_6.1] (m_X12_gives (zC_D hK) ht0 qv_9) sv_X12_gives q_1715 ht0 rfl [] rfl (Nat.le_of_ble_eq_true rfl) ⟨by decide, by decide⟩ dX12_livesDay_45 (z_pop (pc := 48) hK dX12_livesDay_48 rfl (zsub (lv' := [(0, .ref (G.2.2.2 t0)), (1, .int v_4.1)]) [2, 1] rfl (b_X12_livesDay_49 hK ht0 hE v_4.1 v_9.2 hg))))))
theorem m_X12_livesDay {l : Launch} {G : zG} (hG : zD G) {h : zH} {t0 : Nat} (ht0 : zT t0 = (11, 0)) {r : Int32 × zH} (hg : g_X12_livesDay h t0 = some r) : zM l G yX12_livesDay cX12_livesDay 3 (some .int) 6 137 [.ref (G.2.2.2 t0)] h (some (.int r.1)) r.2 :=
  zM_of hG pn_X12 (Nat.le_of_ble_eq_true rfl) (fun K _ hK hE => b_X12_livesDay hK ht0 hE hg)
theorem dX12_ages_0 : decode cX12_ages 0 = .ok (.aload_n 0, 1) := by decide +kernel
theorem dX12_ages_1 : decode cX12_ages 1 = .ok (.iconst 0, 1) := by decide +kernel
theorem dX12_ages_2 : decode cX12_ages 2 = .ok (.putfield 126, 3) := by decide +kernel
theorem dX12_ages_5 : decode cX12_ages 5 = .ok (.iload_n 1, 1) := by decide +kernel
theorem dX12_ages_6 : decode cX12_ages 6 = .ok (.iconst 0, 1) := by decide +kernel
theorem dX12_ages_7 : decode cX12_ages 7 = .ok (.sipush 9999, 3) := by decide +kernel
theorem dX12_ages_10 : decode cX12_ages 10 = .ok (.invokestatic 259, 3) := by decide +kernel
theorem dX12_ages_13 : decode cX12_ages 13 = .ok (.ifCond .eq 22, 3) := by decide +kernel
theorem dX12_ages_16 : decode cX12_ages 16 = .ok (.iload_n 2, 1) := by decide +kernel
theorem dX12_ages_17 : decode cX12_ages 17 = .ok (.iconst 1, 1) := by decide +kernel
theorem dX12_ages_18 : decode cX12_ages 18 = .ok (.bipush 99, 2) := by decide +kernel
theorem dX12_ages_20 : decode cX12_ages 20 = .ok (.invokestatic 259, 3) := by decide +kernel
theorem dX12_ages_23 : decode cX12_ages 23 = .ok (.ifCond .eq 12, 3) := by decide +kernel
theorem dX12_ages_26 : decode cX12_ages 26 = .ok (.iload_n 3, 1) := by decide +kernel
theorem dX12_ages_27 : decode cX12_ages 27 = .ok (.iconst 0, 1) := by decide +kernel
theorem dX12_ages_28 : decode cX12_ages 28 = .ok (.iconst 2, 1) := by decide +kernel
theorem dX12_ages_29 : decode cX12_ages 29 = .ok (.invokestatic 259, 3) := by decide +kernel
theorem dX12_ages_32 : decode cX12_ages 32 = .ok (.ifCond .ne 5, 3) := by decide +kernel
theorem dX12_ages_35 : decode cX12_ages 35 = .ok (.iconst (-1), 1) := by decide +kernel
theorem dX12_ages_36 : decode cX12_ages 36 = .ok (.ireturn, 1) := by decide +kernel
theorem dX12_ages_37 : decode cX12_ages 37 = .ok (.aload_n 0, 1) := by decide +kernel
theorem dX12_ages_38 : decode cX12_ages 38 = .ok (.iload_n 1, 1) := by decide +kernel
theorem dX12_ages_39 : decode cX12_ages 39 = .ok (.i2l, 1) := by decide +kernel
theorem dX12_ages_40 : decode cX12_ages 40 = .ok (.putfield 462, 3) := by decide +kernel
theorem dX12_ages_43 : decode cX12_ages 43 = .ok (.aload_n 0, 1) := by decide +kernel
theorem dX12_ages_44 : decode cX12_ages 44 = .ok (.getfield 105, 3) := by decide +kernel
theorem dX12_ages_47 : decode cX12_ages 47 = .ok (.iconst 0, 1) := by decide +kernel
theorem dX12_ages_48 : decode cX12_ages 48 = .ok (.aload_n 0, 1) := by decide +kernel
theorem dX12_ages_49 : decode cX12_ages 49 = .ok (.getfield 108, 3) := by decide +kernel
theorem dX12_ages_52 : decode cX12_ages 52 = .ok (.iconst 0, 1) := by decide +kernel
theorem dX12_ages_53 : decode cX12_ages 53 = .ok (.invokestatic 409, 3) := by decide +kernel
theorem dX12_ages_56 : decode cX12_ages 56 = .ok (.iconst 0, 1) := by decide +kernel
theorem dX12_ages_57 : decode cX12_ages 57 = .ok (.istore 4, 2) := by decide +kernel
theorem dX12_ages_59 : decode cX12_ages 59 = .ok (.iconst 0, 1) := by decide +kernel
theorem dX12_ages_60 : decode cX12_ages 60 = .ok (.istore 5, 2) := by decide +kernel
theorem dX12_ages_62 : decode cX12_ages 62 = .ok (.iconst 0, 1) := by decide +kernel
theorem dX12_ages_63 : decode cX12_ages 63 = .ok (.istore 6, 2) := by decide +kernel
theorem dX12_ages_65 : decode cX12_ages 65 = .ok (.iload 6, 2) := by decide +kernel
theorem dX12_ages_67 : decode cX12_ages 67 = .ok (.iload_n 2, 1) := by decide +kernel
theorem dX12_ages_68 : decode cX12_ages 68 = .ok (.if_icmp .ge 43, 3) := by decide +kernel
theorem dX12_ages_71 : decode cX12_ages 71 = .ok (.aload_n 0, 1) := by decide +kernel
theorem dX12_ages_72 : decode cX12_ages 72 = .ok (.invokevirtual 379, 3) := by decide +kernel
theorem dX12_ages_75 : decode cX12_ages 75 = .ok (.istore 7, 2) := by decide +kernel
theorem dX12_ages_77 : decode cX12_ages 77 = .ok (.iload 4, 2) := by decide +kernel
theorem dX12_ages_79 : decode cX12_ages 79 = .ok (.aload_n 0, 1) := by decide +kernel
theorem dX12_ages_80 : decode cX12_ages 80 = .ok (.invokevirtual 476, 3) := by decide +kernel
theorem dX12_ages_83 : decode cX12_ages 83 = .ok (.iadd, 1) := by decide +kernel
theorem dX12_ages_84 : decode cX12_ages 84 = .ok (.istore 4, 2) := by decide +kernel
theorem dX12_ages_86 : decode cX12_ages 86 = .ok (.iload 5, 2) := by decide +kernel
theorem dX12_ages_88 : decode cX12_ages 88 = .ok (.aload_n 0, 1) := by decide +kernel
theorem dX12_ages_89 : decode cX12_ages 89 = .ok (.invokevirtual 379, 3) := by decide +kernel
theorem dX12_ages_92 : decode cX12_ages 92 = .ok (.iload 7, 2) := by decide +kernel
theorem dX12_ages_94 : decode cX12_ages 94 = .ok (.if_icmp .eq 7, 3) := by decide +kernel
theorem dX12_ages_97 : decode cX12_ages 97 = .ok (.iconst 1, 1) := by decide +kernel
theorem dX12_ages_98 : decode cX12_ages 98 = .ok (.goto 4, 3) := by decide +kernel
theorem dX12_ages_101 : decode cX12_ages 101 = .ok (.iconst 0, 1) := by decide +kernel
theorem dX12_ages_102 : decode cX12_ages 102 = .ok (.iadd, 1) := by decide +kernel
theorem dX12_ages_103 : decode cX12_ages 103 = .ok (.istore 5, 2) := by decide +kernel
theorem dX12_ages_105 : decode cX12_ages 105 = .ok (.iinc 6 1, 3) := by decide +kernel
theorem dX12_ages_108 : decode cX12_ages 108 = .ok (.goto (-43), 3) := by decide +kernel
theorem dX12_ages_111 : decode cX12_ages 111 = .ok (.aload_n 0, 1) := by decide +kernel
theorem dX12_ages_112 : decode cX12_ages 112 = .ok (.getfield 105, 3) := by decide +kernel
theorem dX12_ages_115 : decode cX12_ages 115 = .ok (.iconst 1, 1) := by decide +kernel
theorem dX12_ages_116 : decode cX12_ages 116 = .ok (.iaload, 1) := by decide +kernel
theorem dX12_ages_117 : decode cX12_ages 117 = .ok (.istore 6, 2) := by decide +kernel
theorem dX12_ages_119 : decode cX12_ages 119 = .ok (.aload_n 0, 1) := by decide +kernel
theorem dX12_ages_120 : decode cX12_ages 120 = .ok (.getfield 108, 3) := by decide +kernel
theorem dX12_ages_123 : decode cX12_ages 123 = .ok (.iconst 0, 1) := by decide +kernel
theorem dX12_ages_124 : decode cX12_ages 124 = .ok (.aload_n 0, 1) := by decide +kernel
theorem dX12_ages_125 : decode cX12_ages 125 = .ok (.getfield 105, 3) := by decide +kernel
theorem dX12_ages_128 : decode cX12_ages 128 = .ok (.iconst 0, 1) := by decide +kernel
theorem dX12_ages_129 : decode cX12_ages 129 = .ok (.invokestatic 409, 3) := by decide +kernel
theorem dX12_ages_132 : decode cX12_ages 132 = .ok (.iload_n 3, 1) := by decide +kernel
theorem dX12_ages_133 : decode cX12_ages 133 = .ok (.ifCond .ne 8, 3) := by decide +kernel
theorem dX12_ages_136 : decode cX12_ages 136 = .ok (.iload 4, 2) := by decide +kernel
theorem dX12_ages_138 : decode cX12_ages 138 = .ok (.goto 15, 3) := by decide +kernel
theorem dX12_ages_141 : decode cX12_ages 141 = .ok (.iload_n 3, 1) := by decide +kernel
theorem dX12_ages_142 : decode cX12_ages 142 = .ok (.iconst 1, 1) := by decide +kernel
theorem dX12_ages_143 : decode cX12_ages 143 = .ok (.if_icmp .ne 8, 3) := by decide +kernel
theorem dX12_ages_146 : decode cX12_ages 146 = .ok (.iload 5, 2) := by decide +kernel
theorem dX12_ages_148 : decode cX12_ages 148 = .ok (.goto 5, 3) := by decide +kernel
theorem dX12_ages_151 : decode cX12_ages 151 = .ok (.iload 6, 2) := by decide +kernel
theorem dX12_ages_153 : decode cX12_ages 153 = .ok (.ireturn, 1) := by decide +kernel
def g_X12_ages_65 (t0 : Nat)  : Nat → Int32 → Int32 → Int32 → Int32 → Int32 → zH → Option (Int32 × zH)
  | 0, _, _, _, _, _, _ => none
  | n + 1, x2, x3, x4, x5, x6, h => if x2 ≤ x6 then (zgu (zin 1 107) <| zlet (h.1 (zR t0 44) (zx 1)) fun v_12 => (g_X12_copies h (zR t0 45) 107 0 (zR t0 44) 107 0).bind fun v_13 => if x3 = 0 then (some (x4, v_13)) else (if x3 = 1 then (some (x5, v_13)) else (some (v_12, v_13)))) else ((g_X12_governor h t0).bind fun v_16 => (g_X12_livesDay h t0).bind fun v_17 => (g_X12_governor v_17.2 t0).bind fun v_18 => if v_18 = v_16 then (g_X12_ages_65 t0 n x2 x3 (x4 + v_17.1) (x5 + 0) (x6 + 1) v_17.2) else (g_X12_ages_65 t0 n x2 x3 (x4 + v_17.1) (x5 + 1) (x6 + 1) v_17.2))
def g_X12_ages (h : zH) (t0 : Nat) (x1 : Int32) (x2 : Int32) (x3 : Int32) : Option (Int32 × zH) := zlet (zpi h t0 0 0) fun h_1 => (g_X12_within h_1 x1 0 9999).bind fun v_2 => if (zb v_2) = 0 then (some ((-1), h_1)) else ((g_X12_within h_1 x2 1 99).bind fun v_4 => if (zb v_4) = 0 then (some ((-1), h_1)) else ((g_X12_within h_1 x3 0 2).bind fun v_6 => if (zb v_6) = 0 then (some ((-1), h_1)) else (zlet (zpl h_1 t0 51 x1.toInt64) fun h_8 => (g_X12_copies h_8 (zR t0 44) 107 0 (zR t0 45) 107 0).bind fun v_9 => g_X12_ages_65 t0 zfu x2 x3 0 0 0 v_9)))
set_option maxRecDepth 100000 in
set_option maxHeartbeats 4000000 in
theorem b_X12_ages_65 {K : zK} {G : zG} (hK : zC K G cX12_ages RX12 8 7 159 (some .int)) {t0 : Nat} (ht0 : zT t0 = (11, 0)) {r : Int32 × zH} (hE : zE K G (some (.int r.1)) r.2) : ∀ (n : Nat) (x2 : Int32) (x3 : Int32) (x4 : Int32) (x5 : Int32) (x6 : Int32) (h : zH), g_X12_ages_65 t0 n x2 x3 x4 x5 x6 h = some r → zW K G 8 65 [(0, .ref (G.2.2.2 t0)), (2, .int x2), (3, .int x3), (4, .int x4), (5, .int x5), (6, .int x6)] [] h := by
  intro n
  induction n with
  | zero => intro x2 x3 x4 x5 x6 h hg; exact nomatch (show none = some r from hg)
  | succ n ih =>
    intro x2 x3 x4 x5 x6 h hg
    rw [g_X12_ages_65] at hg
    refine z_iload (pc := 65) hK 5 dX12_ages_65 rfl (z_iload_n (pc := 67) hK 1 dX12_ages_67 rfl (z_icmp_ge (pc := 68) hK 111 dX12_ages_68 (by decide) (fun c_10 => ?_) (fun c_10 => ?_)))
    · rw [if_pos c_10] at hg
      obtain ⟨c_11, hg⟩ := zgu_some hg
      obtain ⟨v_12, ev_12, hg⟩ := zlet_some hg
      obtain ⟨v_13, qv_13, hg⟩ := zbind_some hg
      refine z_aload_n (pc := 111) hK 0 dX12_ages_111 rfl (z_getR (pc := 112) hK f_X12_105_11 ht0 dX12_ages_112 (z_iconst (pc := 115) hK dX12_ages_115 zc_i1 (z_iald (pc := 116) hK (zt_11_44 ht0) c_11 dX12_ages_116 (z_nameI ev_12 (z_istore (pc := 117) hK (lv' := [(6, .int v_12), (0, .ref (G.2.2.2 t0)), (2, .int x2), (3, .int x3), (4, .int x4), (5, .int x5)]) dX12_ages_117 (by decide) rfl (z_aload_n (pc := 119) hK 1 dX12_ages_119 rfl (z_getR (pc := 120) hK f_X12_108_11 ht0 dX12_ages_120 (z_iconst (pc := 123) hK dX12_ages_123 zc_i0 (z_aload_n (pc := 124) hK 1 dX12_ages_124 rfl (z_getR (pc := 125) hK f_X12_105_11 ht0 dX12_ages_125 (z_iconst (pc := 128) hK dX12_ages_128 zc_i0 (z_callSv (pc := 129) hK [.ref (G.2.2.2 (zR t0 45)), .int 0, .ref (G.2.2.2 (zR t0 44)), .int 0] (m_X12_copies (zC_D hK) (zt_11_45 ht0) (zt_11_44 ht0) qv_13) ss_X12_copies q_1676 rfl [] rfl (Nat.le_of_ble_eq_true rfl) ⟨by decide, by decide⟩ dX12_ages_129 (z_iload_n (pc := 132) hK 3 dX12_ages_132 rfl (z_if_ne (pc := 133) hK 141 dX12_ages_133 (by decide) (fun c_14 => ?_) (fun c_14 => ?_)))))))))))))))
      · rw [if_neg c_14] at hg
        refine z_iload_n (pc := 141) hK 3 dX12_ages_141 rfl (z_iconst (pc := 142) hK dX12_ages_142 zc_i1 (z_icmp_ne (pc := 143) hK 151 dX12_ages_143 (by decide) (fun c_15 => ?_) (fun c_15 => ?_)))
        · rw [if_neg c_15] at hg
          exact z_iload (pc := 151) hK 0 dX12_ages_151 rfl (z_iretE (pc := 153) hK hE hg dX12_ages_153)
        · rw [if_pos c_15] at hg
          exact z_iload (pc := 146) hK 5 dX12_ages_146 rfl (z_goto (pc := 148) hK 153 dX12_ages_148 (by decide) (z_iretE (pc := 153) hK hE hg dX12_ages_153))
      · rw [if_pos c_14] at hg
        exact z_iload (pc := 136) hK 4 dX12_ages_136 rfl (z_goto (pc := 138) hK 153 dX12_ages_138 (by decide) (z_iretE (pc := 153) hK hE hg dX12_ages_153))
    · rw [if_neg c_10] at hg
      obtain ⟨v_16, qv_16, hg⟩ := zbind_some hg
      obtain ⟨v_17, qv_17, hg⟩ := zbind_some hg
      obtain ⟨v_18, qv_18, hg⟩ := zbind_some hg
      refine z_aload_n (pc := 71) hK 0 dX12_ages_71 rfl (z_callVi (pc := 72) hK [] (m_X12_governor (zC_D hK) ht0 qv_16) sv_X12_governor q_1652 ht0 rfl [] rfl (Nat.le_of_ble_eq_true rfl) ⟨by decide, by decide⟩ dX12_ages_72 (z_istore (pc := 75) hK (lv' := [(7, .int v_16), (0, .ref (G.2.2.2 t0)), (2, .int x2), (3, .int x3), (4, .int x4), (5, .int x5), (6, .int x6)]) dX12_ages_75 (by decide) rfl (z_iload (pc := 77) hK 4 dX12_ages_77 rfl (z_aload_n (pc := 79) hK 1 dX12_ages_79 rfl (z_callVi (pc := 80) hK [] (m_X12_livesDay (zC_D hK) ht0 qv_17) sv_X12_livesDay q_1863 ht0 rfl [.int x4] rfl (Nat.le_of_ble_eq_true rfl) ⟨by decide, by decide⟩ dX12_ages_80 (z_iadd (pc := 83) hK dX12_ages_83 (z_istore (pc := 84) hK (lv' := [(4, .int (x4 + v_17.1)), (7, .int v_16), (0, .ref (G.2.2.2 t0)), (2, .int x2), (3, .int x3), (5, .int x5), (6, .int x6)]) dX12_ages_84 (by decide) rfl (z_iload (pc := 86) hK 5 dX12_ages_86 rfl (z_aload_n (pc := 88) hK 2 dX12_ages_88 rfl (z_callVi (pc := 89) hK [] (m_X12_governor (zC_D hK) ht0 qv_18) sv_X12_governor q_1652 ht0 rfl [.int x5] rfl (Nat.le_of_ble_eq_true rfl) ⟨by decide, by decide⟩ dX12_ages_89 (z_iload (pc := 92) hK 1 dX12_ages_92 rfl (z_icmp_eq (pc := 94) hK 101 dX12_ages_94 (by decide) (fun c_19 => ?_) (fun c_19 => ?_)))))))))))))
      · rw [if_pos c_19] at hg
        exact z_iconst (pc := 101) hK dX12_ages_101 zc_i0 (z_iadd (pc := 102) hK dX12_ages_102 (z_istore (pc := 103) hK (lv' := [(5, .int (x5 + 0)), (4, .int (x4 + v_17.1)), (7, .int v_16), (0, .ref (G.2.2.2 t0)), (2, .int x2), (3, .int x3), (6, .int x6)]) dX12_ages_103 (by decide) rfl (z_iinc (pc := 105) hK 6 (lv' := [(6, .int (x6 + 1)), (5, .int (x5 + 0)), (4, .int (x4 + v_17.1)), (7, .int v_16), (0, .ref (G.2.2.2 t0)), (2, .int x2), (3, .int x3)]) dX12_ages_105 rfl (zc_n1 _) (by decide) rfl (z_goto (pc := 108) hK 65 dX12_ages_108 (by decide) (zsub (lv' := [(0, .ref (G.2.2.2 t0)), (2, .int x2), (3, .int x3), (4, .int (x4 + v_17.1)), (5, .int (x5 + 0)), (6, .int (x6 + 1))]) [4, 5, 6, 2, 1, 0] rfl (ih x2 x3 (x4 + v_17.1) (x5 + 0) (x6 + 1) v_17.2 hg))))))
      · rw [if_neg c_19] at hg
        exact z_iconst (pc := 97) hK dX12_ages_97 zc_i1 (z_goto (pc := 98) hK 102 dX12_ages_98 (by decide) (z_iadd (pc := 102) hK dX12_ages_102 (z_istore (pc := 103) hK (lv' := [(5, .int (x5 + 1)), (4, .int (x4 + v_17.1)), (7, .int v_16), (0, .ref (G.2.2.2 t0)), (2, .int x2), (3, .int x3), (6, .int x6)]) dX12_ages_103 (by decide) rfl (z_iinc (pc := 105) hK 6 (lv' := [(6, .int (x6 + 1)), (5, .int (x5 + 1)), (4, .int (x4 + v_17.1)), (7, .int v_16), (0, .ref (G.2.2.2 t0)), (2, .int x2), (3, .int x3)]) dX12_ages_105 rfl (zc_n1 _) (by decide) rfl (z_goto (pc := 108) hK 65 dX12_ages_108 (by decide) (zsub (lv' := [(0, .ref (G.2.2.2 t0)), (2, .int x2), (3, .int x3), (4, .int (x4 + v_17.1)), (5, .int (x5 + 1)), (6, .int (x6 + 1))]) [4, 5, 6, 2, 1, 0] rfl (ih x2 x3 (x4 + v_17.1) (x5 + 1) (x6 + 1) v_17.2 hg)))))))
set_option maxRecDepth 100000 in
set_option maxHeartbeats 4000000 in
theorem b_X12_ages {K : zK} {G : zG} (hK : zC K G cX12_ages RX12 8 7 159 (some .int)) {h : zH} {t0 : Nat} {x1 : Int32} {x2 : Int32} {x3 : Int32} (ht0 : zT t0 = (11, 0)) {r : Int32 × zH} (hE : zE K G (some (.int r.1)) r.2) (hg : g_X12_ages h t0 x1 x2 x3 = some r) : zW K G 8 0 [(0, .ref (G.2.2.2 t0)), (1, .int x1), (2, .int x2), (3, .int x3)] [] h := by
  rw [g_X12_ages] at hg
  obtain ⟨h_1, eh_1, hg⟩ := zlet_some hg
  obtain ⟨v_2, qv_2, hg⟩ := zbind_some hg
  refine z_aload_n (pc := 0) hK 0 dX12_ages_0 rfl (z_iconst (pc := 1) hK dX12_ages_1 zc_i0 (z_putI (pc := 2) hK f_X12_126_11 fp_11_0 ht0 dX12_ages_2 (z_nameH eh_1 (z_iload_n (pc := 5) hK 1 dX12_ages_5 rfl (z_iconst (pc := 6) hK dX12_ages_6 zc_i0 (z_sipush (pc := 7) hK dX12_ages_7 zc_s9999 (z_callSi (pc := 10) hK [.int x1, .int 0, .int 9999] (m_X12_within (zC_D hK) qv_2) ss_X12_within q_1538 rfl [] rfl (Nat.le_of_ble_eq_true rfl) ⟨by decide, by decide⟩ dX12_ages_10 (z_if_eq (pc := 13) hK 35 dX12_ages_13 (by decide) (fun c_3 => ?_) (fun c_3 => ?_)))))))))
  · rw [if_pos c_3] at hg
    exact z_iconst (pc := 35) hK dX12_ages_35 zc_im1 (z_iretE (pc := 36) hK hE hg dX12_ages_36)
  · rw [if_neg c_3] at hg
    obtain ⟨v_4, qv_4, hg⟩ := zbind_some hg
    refine z_iload_n (pc := 16) hK 2 dX12_ages_16 rfl (z_iconst (pc := 17) hK dX12_ages_17 zc_i1 (z_bipush (pc := 18) hK dX12_ages_18 zc_b99 (z_callSi (pc := 20) hK [.int x2, .int 1, .int 99] (m_X12_within (zC_D hK) qv_4) ss_X12_within q_1538 rfl [] rfl (Nat.le_of_ble_eq_true rfl) ⟨by decide, by decide⟩ dX12_ages_20 (z_if_eq (pc := 23) hK 35 dX12_ages_23 (by decide) (fun c_5 => ?_) (fun c_5 => ?_)))))
    · rw [if_pos c_5] at hg
      exact z_iconst (pc := 35) hK dX12_ages_35 zc_im1 (z_iretE (pc := 36) hK hE hg dX12_ages_36)
    · rw [if_neg c_5] at hg
      obtain ⟨v_6, qv_6, hg⟩ := zbind_some hg
      refine z_iload_n (pc := 26) hK 3 dX12_ages_26 rfl (z_iconst (pc := 27) hK dX12_ages_27 zc_i0 (z_iconst (pc := 28) hK dX12_ages_28 zc_i2 (z_callSi (pc := 29) hK [.int x3, .int 0, .int 2] (m_X12_within (zC_D hK) qv_6) ss_X12_within q_1538 rfl [] rfl (Nat.le_of_ble_eq_true rfl) ⟨by decide, by decide⟩ dX12_ages_29 (z_if_ne (pc := 32) hK 37 dX12_ages_32 (by decide) (fun c_7 => ?_) (fun c_7 => ?_)))))
      · rw [if_neg c_7] at hg
        obtain ⟨h_8, eh_8, hg⟩ := zlet_some hg
        obtain ⟨v_9, qv_9, hg⟩ := zbind_some hg
        exact z_aload_n (pc := 37) hK 0 dX12_ages_37 rfl (z_iload_n (pc := 38) hK 1 dX12_ages_38 rfl (z_i2l (pc := 39) hK dX12_ages_39 rfl (z_putL (pc := 40) hK f_X12_462_11 fp_11_51 ht0 dX12_ages_40 (z_nameH eh_8 (z_aload_n (pc := 43) hK 0 dX12_ages_43 rfl (z_getR (pc := 44) hK f_X12_105_11 ht0 dX12_ages_44 (z_iconst (pc := 47) hK dX12_ages_47 zc_i0 (z_aload_n (pc := 48) hK 0 dX12_ages_48 rfl (z_getR (pc := 49) hK f_X12_108_11 ht0 dX12_ages_49 (z_iconst (pc := 52) hK dX12_ages_52 zc_i0 (z_callSv (pc := 53) hK [.ref (G.2.2.2 (zR t0 44)), .int 0, .ref (G.2.2.2 (zR t0 45)), .int 0] (m_X12_copies (zC_D hK) (zt_11_44 ht0) (zt_11_45 ht0) qv_9) ss_X12_copies q_1676 rfl [] rfl (Nat.le_of_ble_eq_true rfl) ⟨by decide, by decide⟩ dX12_ages_53 (z_iconst (pc := 56) hK dX12_ages_56 zc_i0 (z_istore (pc := 57) hK (lv' := [(4, .int 0), (0, .ref (G.2.2.2 t0)), (1, .int x1), (2, .int x2), (3, .int x3)]) dX12_ages_57 (by decide) rfl (z_iconst (pc := 59) hK dX12_ages_59 zc_i0 (z_istore (pc := 60) hK (lv' := [(5, .int 0), (4, .int 0), (0, .ref (G.2.2.2 t0)), (1, .int x1), (2, .int x2), (3, .int x3)]) dX12_ages_60 (by decide) rfl (z_iconst (pc := 62) hK dX12_ages_62 zc_i0 (z_istore (pc := 63) hK (lv' := [(6, .int 0), (5, .int 0), (4, .int 0), (0, .ref (G.2.2.2 t0)), (1, .int x1), (2, .int x2), (3, .int x3)]) dX12_ages_63 (by decide) rfl (zsub (lv' := [(0, .ref (G.2.2.2 t0)), (2, .int x2), (3, .int x3), (4, .int 0), (5, .int 0), (6, .int 0)]) [3, 5, 6, 2, 1, 0] rfl (b_X12_ages_65 hK ht0 hE zfu x2 x3 0 0 0 v_9 hg)))))))))))))))))))
      · rw [if_pos c_7] at hg
        exact z_iconst (pc := 35) hK dX12_ages_35 zc_im1 (z_iretE (pc := 36) hK hE hg dX12_ages_36)
theorem m_X12_ages {l : Launch} {G : zG} (hG : zD G) {h : zH} {t0 : Nat} {x1 : Int32} {x2 : Int32} {x3 : Int32} (ht0 : zT t0 = (11, 0)) {r : Int32 × zH} (hg : g_X12_ages h t0 x1 x2 x3 = some r) : zM l G yX12_ages cX12_ages 8 (some .int) 7 159 [.ref (G.2.2.2 t0), .int x1, .int x2, .int x3] h (some (.int r.1)) r.2 :=
  zM_of hG pn_X12 (Nat.le_of_ble_eq_true rfl) (fun K _ hK hE => b_X12_ages hK ht0 hE hg)
theorem dX12_mark_0 : decode cX12_mark 0 = .ok (.aload_n 0, 1) := by decide +kernel
theorem dX12_mark_1 : decode cX12_mark 1 = .ok (.iconst 0, 1) := by decide +kernel
theorem dX12_mark_2 : decode cX12_mark 2 = .ok (.putfield 126, 3) := by decide +kernel
theorem dX12_mark_5 : decode cX12_mark 5 = .ok (.iload_n 1, 1) := by decide +kernel
theorem dX12_mark_6 : decode cX12_mark 6 = .ok (.iconst 0, 1) := by decide +kernel
theorem dX12_mark_7 : decode cX12_mark 7 = .ok (.iconst 3, 1) := by decide +kernel
theorem dX12_mark_8 : decode cX12_mark 8 = .ok (.invokestatic 259, 3) := by decide +kernel
theorem dX12_mark_11 : decode cX12_mark 11 = .ok (.ifCond .eq 16, 3) := by decide +kernel
theorem dX12_mark_14 : decode cX12_mark 14 = .ok (.iload_n 2, 1) := by decide +kernel
theorem dX12_mark_15 : decode cX12_mark 15 = .ok (.ifCond .eq 14, 3) := by decide +kernel
theorem dX12_mark_18 : decode cX12_mark 18 = .ok (.aload_n 0, 1) := by decide +kernel
theorem dX12_mark_19 : decode cX12_mark 19 = .ok (.getfield 117, 3) := by decide +kernel
theorem dX12_mark_22 : decode cX12_mark 22 = .ok (.iload_n 1, 1) := by decide +kernel
theorem dX12_mark_23 : decode cX12_mark 23 = .ok (.baload, 1) := by decide +kernel
theorem dX12_mark_24 : decode cX12_mark 24 = .ok (.ifCond .ne 5, 3) := by decide +kernel
theorem dX12_mark_27 : decode cX12_mark 27 = .ok (.iconst 0, 1) := by decide +kernel
theorem dX12_mark_28 : decode cX12_mark 28 = .ok (.ireturn, 1) := by decide +kernel
theorem dX12_mark_29 : decode cX12_mark 29 = .ok (.aload_n 0, 1) := by decide +kernel
theorem dX12_mark_30 : decode cX12_mark 30 = .ok (.getfield 117, 3) := by decide +kernel
theorem dX12_mark_33 : decode cX12_mark 33 = .ok (.iload_n 1, 1) := by decide +kernel
theorem dX12_mark_34 : decode cX12_mark 34 = .ok (.iconst 1, 1) := by decide +kernel
theorem dX12_mark_35 : decode cX12_mark 35 = .ok (.bastore, 1) := by decide +kernel
theorem dX12_mark_36 : decode cX12_mark 36 = .ok (.iload_n 2, 1) := by decide +kernel
theorem dX12_mark_37 : decode cX12_mark 37 = .ok (.ifCond .eq 9, 3) := by decide +kernel
theorem dX12_mark_40 : decode cX12_mark 40 = .ok (.iconst 1, 1) := by decide +kernel
theorem dX12_mark_41 : decode cX12_mark 41 = .ok (.iload_n 1, 1) := by decide +kernel
theorem dX12_mark_42 : decode cX12_mark 42 = .ok (.iadd, 1) := by decide +kernel
theorem dX12_mark_43 : decode cX12_mark 43 = .ok (.goto 4, 3) := by decide +kernel
theorem dX12_mark_46 : decode cX12_mark 46 = .ok (.iconst 0, 1) := by decide +kernel
theorem dX12_mark_47 : decode cX12_mark 47 = .ok (.istore_n 3, 1) := by decide +kernel
theorem dX12_mark_48 : decode cX12_mark 48 = .ok (.iload_n 2, 1) := by decide +kernel
theorem dX12_mark_49 : decode cX12_mark 49 = .ok (.ifCond .eq 7, 3) := by decide +kernel
theorem dX12_mark_52 : decode cX12_mark 52 = .ok (.iconst 0, 1) := by decide +kernel
theorem dX12_mark_53 : decode cX12_mark 53 = .ok (.goto 6, 3) := by decide +kernel
theorem dX12_mark_56 : decode cX12_mark 56 = .ok (.iconst 1, 1) := by decide +kernel
theorem dX12_mark_57 : decode cX12_mark 57 = .ok (.iload_n 1, 1) := by decide +kernel
theorem dX12_mark_58 : decode cX12_mark 58 = .ok (.iadd, 1) := by decide +kernel
theorem dX12_mark_59 : decode cX12_mark 59 = .ok (.istore 4, 2) := by decide +kernel
theorem dX12_mark_61 : decode cX12_mark 61 = .ok (.aload_n 0, 1) := by decide +kernel
theorem dX12_mark_62 : decode cX12_mark 62 = .ok (.iload_n 3, 1) := by decide +kernel
theorem dX12_mark_63 : decode cX12_mark 63 = .ok (.iload 4, 2) := by decide +kernel
theorem dX12_mark_65 : decode cX12_mark 65 = .ok (.invokevirtual 340, 3) := by decide +kernel
theorem dX12_mark_68 : decode cX12_mark 68 = .ok (.aload_n 0, 1) := by decide +kernel
theorem dX12_mark_69 : decode cX12_mark 69 = .ok (.iload_n 3, 1) := by decide +kernel
theorem dX12_mark_70 : decode cX12_mark 70 = .ok (.iload 4, 2) := by decide +kernel
theorem dX12_mark_72 : decode cX12_mark 72 = .ok (.invokevirtual 479, 3) := by decide +kernel
theorem dX12_mark_75 : decode cX12_mark 75 = .ok (.iload_n 2, 1) := by decide +kernel
theorem dX12_mark_76 : decode cX12_mark 76 = .ok (.ifCond .eq 27, 3) := by decide +kernel
theorem dX12_mark_79 : decode cX12_mark 79 = .ok (.aload_n 0, 1) := by decide +kernel
theorem dX12_mark_80 : decode cX12_mark 80 = .ok (.getfield 111, 3) := by decide +kernel
theorem dX12_mark_83 : decode cX12_mark 83 = .ok (.bipush 107, 2) := by decide +kernel
theorem dX12_mark_85 : decode cX12_mark 85 = .ok (.iload_n 1, 1) := by decide +kernel
theorem dX12_mark_86 : decode cX12_mark 86 = .ok (.imul, 1) := by decide +kernel
theorem dX12_mark_87 : decode cX12_mark 87 = .ok (.aload_n 0, 1) := by decide +kernel
theorem dX12_mark_88 : decode cX12_mark 88 = .ok (.getfield 105, 3) := by decide +kernel
theorem dX12_mark_91 : decode cX12_mark 91 = .ok (.iconst 0, 1) := by decide +kernel
theorem dX12_mark_92 : decode cX12_mark 92 = .ok (.invokestatic 409, 3) := by decide +kernel
theorem dX12_mark_95 : decode cX12_mark 95 = .ok (.aload_n 0, 1) := by decide +kernel
theorem dX12_mark_96 : decode cX12_mark 96 = .ok (.iconst 0, 1) := by decide +kernel
theorem dX12_mark_97 : decode cX12_mark 97 = .ok (.putfield 334, 3) := by decide +kernel
theorem dX12_mark_100 : decode cX12_mark 100 = .ok (.goto 19, 3) := by decide +kernel
theorem dX12_mark_103 : decode cX12_mark 103 = .ok (.aload_n 0, 1) := by decide +kernel
theorem dX12_mark_104 : decode cX12_mark 104 = .ok (.getfield 105, 3) := by decide +kernel
theorem dX12_mark_107 : decode cX12_mark 107 = .ok (.iconst 0, 1) := by decide +kernel
theorem dX12_mark_108 : decode cX12_mark 108 = .ok (.aload_n 0, 1) := by decide +kernel
theorem dX12_mark_109 : decode cX12_mark 109 = .ok (.getfield 111, 3) := by decide +kernel
theorem dX12_mark_112 : decode cX12_mark 112 = .ok (.bipush 107, 2) := by decide +kernel
theorem dX12_mark_114 : decode cX12_mark 114 = .ok (.iload_n 1, 1) := by decide +kernel
theorem dX12_mark_115 : decode cX12_mark 115 = .ok (.imul, 1) := by decide +kernel
theorem dX12_mark_116 : decode cX12_mark 116 = .ok (.invokestatic 409, 3) := by decide +kernel
theorem dX12_mark_119 : decode cX12_mark 119 = .ok (.iconst 1, 1) := by decide +kernel
theorem dX12_mark_120 : decode cX12_mark 120 = .ok (.ireturn, 1) := by decide +kernel
def g_X12_mark_59 (t0 : Nat)  (x1 : Int32) (x2 : Int32) (x3 : Int32) (s0 : Int32) (h : zH) : Option (Bool × zH) := (g_X12_laysLines h t0 x3 s0).bind fun v_11 => (g_X12_laysHeard v_11 t0 x3 s0).bind fun v_12 => if x2 = 0 then ((g_X12_copies v_12 (zR t0 44) 107 0 (zR t0 46) 428 (107 * x1)).bind fun v_14 => some (true, v_14)) else ((g_X12_copies v_12 (zR t0 46) 428 (107 * x1) (zR t0 44) 107 0).bind fun v_15 => zlet (zpi v_15 t0 49 0) fun h_16 => some (true, h_16))
def g_X12_mark_47 (t0 : Nat)  (x1 : Int32) (x2 : Int32) (s0 : Int32) (h : zH) : Option (Bool × zH) := if x2 = 0 then (g_X12_mark_59 t0 x1 x2 s0 (1 + x1) h) else (g_X12_mark_59 t0 x1 x2 s0 0 h)
def g_X12_mark_29 (t0 : Nat)  (x1 : Int32) (x2 : Int32) (h : zH) : Option (Bool × zH) := zgu (zin x1 4) <| zlet (zpi h (zR t0 48) (zx x1) (vp_nar .boolean 1)) fun h_8 => if x2 = 0 then (g_X12_mark_47 t0 x1 x2 0 h_8) else (g_X12_mark_47 t0 x1 x2 (1 + x1) h_8)
def g_X12_mark (h : zH) (t0 : Nat) (x1 : Int32) (x2 : Int32) : Option (Bool × zH) := zlet (zpi h t0 0 0) fun h_1 => (g_X12_within h_1 x1 0 3).bind fun v_2 => if (zb v_2) = 0 then (some (false, h_1)) else (if x2 = 0 then (g_X12_mark_29 t0 x1 x2 h_1) else (zgu (zin x1 4) <| if (h_1.1 (zR t0 48) (zx x1)) = 0 then (some (false, h_1)) else (g_X12_mark_29 t0 x1 x2 h_1)))
set_option maxRecDepth 100000 in
set_option maxHeartbeats 4000000 in
theorem b_X12_mark_59 {K : zK} {G : zG} (hK : zC K G cX12_mark RX12 5 1 24 (some .boolean)) {t0 : Nat} (ht0 : zT t0 = (11, 0)) {r : Bool × zH} (hE : zE K G (some (.int (zb r.1))) r.2) (x1 : Int32) (x2 : Int32) (x3 : Int32) (s0 : Int32) (h : zH) (hg : g_X12_mark_59 t0 x1 x2 x3 s0 h = some r) : zW K G 5 59 [(0, .ref (G.2.2.2 t0)), (1, .int x1), (2, .int x2), (3, .int x3)] [.int s0] h := by
  rw [g_X12_mark_59] at hg
  obtain ⟨v_11, qv_11, hg⟩ := zbind_some hg
  obtain ⟨v_12, qv_12, hg⟩ := zbind_some hg
  refine z_istore (pc := 59) hK (lv' := [(4, .int s0), (0, .ref (G.2.2.2 t0)), (1, .int x1), (2, .int x2), (3, .int x3)]) dX12_mark_59 (by decide) rfl (z_aload_n (pc := 61) hK 1 dX12_mark_61 rfl (z_iload_n (pc := 62) hK 4 dX12_mark_62 rfl (z_iload (pc := 63) hK 0 dX12_mark_63 rfl (z_callVv (pc := 65) hK [.int x3, .int s0] (m_X12_laysLines (zC_D hK) ht0 qv_11) sv_X12_laysLines q_1612 ht0 rfl [] rfl (Nat.le_of_ble_eq_true rfl) ⟨by decide, by decide⟩ dX12_mark_65 (z_aload_n (pc := 68) hK 1 dX12_mark_68 rfl (z_iload_n (pc := 69) hK 4 dX12_mark_69 rfl (z_iload (pc := 70) hK 0 dX12_mark_70 rfl (z_callVv (pc := 72) hK [.int x3, .int s0] (m_X12_laysHeard (zC_D hK) ht0 qv_12) sv_X12_laysHeard q_1879 ht0 rfl [] rfl (Nat.le_of_ble_eq_true rfl) ⟨by decide, by decide⟩ dX12_mark_72 (z_iload_n (pc := 75) hK 3 dX12_mark_75 rfl (z_if_eq (pc := 76) hK 103 dX12_mark_76 (by decide) (fun c_13 => ?_) (fun c_13 => ?_)))))))))))
  · rw [if_pos c_13] at hg
    obtain ⟨v_14, qv_14, hg⟩ := zbind_some hg
    exact z_aload_n (pc := 103) hK 1 dX12_mark_103 rfl (z_getR (pc := 104) hK f_X12_105_11 ht0 dX12_mark_104 (z_iconst (pc := 107) hK dX12_mark_107 zc_i0 (z_aload_n (pc := 108) hK 1 dX12_mark_108 rfl (z_getR (pc := 109) hK f_X12_111_11 ht0 dX12_mark_109 (z_bipush (pc := 112) hK dX12_mark_112 zc_b107 (z_iload_n (pc := 114) hK 2 dX12_mark_114 rfl (z_imul (pc := 115) hK dX12_mark_115 (z_callSv (pc := 116) hK [.ref (G.2.2.2 (zR t0 44)), .int 0, .ref (G.2.2.2 (zR t0 46)), .int (107 * x1)] (m_X12_copies (zC_D hK) (zt_11_44 ht0) (zt_11_46 ht0) qv_14) ss_X12_copies q_1676 rfl [] rfl (Nat.le_of_ble_eq_true rfl) ⟨by decide, by decide⟩ dX12_mark_116 (z_iconst (pc := 119) hK dX12_mark_119 zc_i1 (z_zretE (pc := 120) hK rfl hE hg dX12_mark_120))))))))))
  · rw [if_neg c_13] at hg
    obtain ⟨v_15, qv_15, hg⟩ := zbind_some hg
    obtain ⟨h_16, eh_16, hg⟩ := zlet_some hg
    exact z_aload_n (pc := 79) hK 1 dX12_mark_79 rfl (z_getR (pc := 80) hK f_X12_111_11 ht0 dX12_mark_80 (z_bipush (pc := 83) hK dX12_mark_83 zc_b107 (z_iload_n (pc := 85) hK 2 dX12_mark_85 rfl (z_imul (pc := 86) hK dX12_mark_86 (z_aload_n (pc := 87) hK 1 dX12_mark_87 rfl (z_getR (pc := 88) hK f_X12_105_11 ht0 dX12_mark_88 (z_iconst (pc := 91) hK dX12_mark_91 zc_i0 (z_callSv (pc := 92) hK [.ref (G.2.2.2 (zR t0 46)), .int (107 * x1), .ref (G.2.2.2 (zR t0 44)), .int 0] (m_X12_copies (zC_D hK) (zt_11_46 ht0) (zt_11_44 ht0) qv_15) ss_X12_copies q_1676 rfl [] rfl (Nat.le_of_ble_eq_true rfl) ⟨by decide, by decide⟩ dX12_mark_92 (z_aload_n (pc := 95) hK 1 dX12_mark_95 rfl (z_iconst (pc := 96) hK dX12_mark_96 zc_i0 (z_putI (pc := 97) hK f_X12_334_11 fp_11_49 ht0 dX12_mark_97 (z_nameH eh_16 (z_goto (pc := 100) hK 119 dX12_mark_100 (by decide) (z_iconst (pc := 119) hK dX12_mark_119 zc_i1 (z_zretE (pc := 120) hK rfl hE hg dX12_mark_120)))))))))))))))
set_option maxRecDepth 100000 in
set_option maxHeartbeats 4000000 in
theorem b_X12_mark_47 {K : zK} {G : zG} (hK : zC K G cX12_mark RX12 5 1 24 (some .boolean)) {t0 : Nat} (ht0 : zT t0 = (11, 0)) {r : Bool × zH} (hE : zE K G (some (.int (zb r.1))) r.2) (x1 : Int32) (x2 : Int32) (s0 : Int32) (h : zH) (hg : g_X12_mark_47 t0 x1 x2 s0 h = some r) : zW K G 5 47 [(0, .ref (G.2.2.2 t0)), (1, .int x1), (2, .int x2)] [.int s0] h := by
  rw [g_X12_mark_47] at hg
  refine z_istore_n (pc := 47) hK (lv' := [(3, .int s0), (0, .ref (G.2.2.2 t0)), (1, .int x1), (2, .int x2)]) dX12_mark_47 (by decide) rfl (z_iload_n (pc := 48) hK 3 dX12_mark_48 rfl (z_if_eq (pc := 49) hK 56 dX12_mark_49 (by decide) (fun c_10 => ?_) (fun c_10 => ?_)))
  · rw [if_pos c_10] at hg
    exact z_iconst (pc := 56) hK dX12_mark_56 zc_i1 (z_iload_n (pc := 57) hK 2 dX12_mark_57 rfl (z_iadd (pc := 58) hK dX12_mark_58 (zsub (lv' := [(0, .ref (G.2.2.2 t0)), (1, .int x1), (2, .int x2), (3, .int s0)]) [1, 2, 3, 0] rfl (b_X12_mark_59 hK ht0 hE x1 x2 s0 (1 + x1) h hg))))
  · rw [if_neg c_10] at hg
    exact z_iconst (pc := 52) hK dX12_mark_52 zc_i0 (z_goto (pc := 53) hK 59 dX12_mark_53 (by decide) (zsub (lv' := [(0, .ref (G.2.2.2 t0)), (1, .int x1), (2, .int x2), (3, .int s0)]) [1, 2, 3, 0] rfl (b_X12_mark_59 hK ht0 hE x1 x2 s0 0 h hg)))
set_option maxRecDepth 100000 in
set_option maxHeartbeats 4000000 in
theorem b_X12_mark_29 {K : zK} {G : zG} (hK : zC K G cX12_mark RX12 5 1 24 (some .boolean)) {t0 : Nat} (ht0 : zT t0 = (11, 0)) {r : Bool × zH} (hE : zE K G (some (.int (zb r.1))) r.2) (x1 : Int32) (x2 : Int32) (h : zH) (hg : g_X12_mark_29 t0 x1 x2 h = some r) : zW K G 5 29 [(0, .ref (G.2.2.2 t0)), (1, .int x1), (2, .int x2)] [] h := by
  rw [g_X12_mark_29] at hg
  obtain ⟨c_7, hg⟩ := zgu_some hg
  obtain ⟨h_8, eh_8, hg⟩ := zlet_some hg
  refine z_aload_n (pc := 29) hK 0 dX12_mark_29 rfl (z_getR (pc := 30) hK f_X12_117_11 ht0 dX12_mark_30 (z_iload_n (pc := 33) hK 1 dX12_mark_33 rfl (z_iconst (pc := 34) hK dX12_mark_34 zc_i1 (z_zast (pc := 35) hK (zt_11_48 ht0) c_7 dX12_mark_35 (z_nameH eh_8 (z_iload_n (pc := 36) hK 2 dX12_mark_36 rfl (z_if_eq (pc := 37) hK 46 dX12_mark_37 (by decide) (fun c_9 => ?_) (fun c_9 => ?_))))))))
  · rw [if_pos c_9] at hg
    exact z_iconst (pc := 46) hK dX12_mark_46 zc_i0 (zsub (lv' := [(0, .ref (G.2.2.2 t0)), (1, .int x1), (2, .int x2)]) [0, 1, 2] rfl (b_X12_mark_47 hK ht0 hE x1 x2 0 h_8 hg))
  · rw [if_neg c_9] at hg
    exact z_iconst (pc := 40) hK dX12_mark_40 zc_i1 (z_iload_n (pc := 41) hK 1 dX12_mark_41 rfl (z_iadd (pc := 42) hK dX12_mark_42 (z_goto (pc := 43) hK 47 dX12_mark_43 (by decide) (zsub (lv' := [(0, .ref (G.2.2.2 t0)), (1, .int x1), (2, .int x2)]) [0, 1, 2] rfl (b_X12_mark_47 hK ht0 hE x1 x2 (1 + x1) h_8 hg)))))
set_option maxRecDepth 100000 in
set_option maxHeartbeats 4000000 in
theorem b_X12_mark {K : zK} {G : zG} (hK : zC K G cX12_mark RX12 5 1 24 (some .boolean)) {h : zH} {t0 : Nat} {x1 : Int32} {x2 : Int32} (ht0 : zT t0 = (11, 0)) {r : Bool × zH} (hE : zE K G (some (.int (zb r.1))) r.2) (hg : g_X12_mark h t0 x1 x2 = some r) : zW K G 5 0 [(0, .ref (G.2.2.2 t0)), (1, .int x1), (2, .int x2)] [] h := by
  rw [g_X12_mark] at hg
  obtain ⟨h_1, eh_1, hg⟩ := zlet_some hg
  obtain ⟨v_2, qv_2, hg⟩ := zbind_some hg
  refine z_aload_n (pc := 0) hK 0 dX12_mark_0 rfl (z_iconst (pc := 1) hK dX12_mark_1 zc_i0 (z_putI (pc := 2) hK f_X12_126_11 fp_11_0 ht0 dX12_mark_2 (z_nameH eh_1 (z_iload_n (pc := 5) hK 1 dX12_mark_5 rfl (z_iconst (pc := 6) hK dX12_mark_6 zc_i0 (z_iconst (pc := 7) hK dX12_mark_7 zc_i3 (z_callSi (pc := 8) hK [.int x1, .int 0, .int 3] (m_X12_within (zC_D hK) qv_2) ss_X12_within q_1538 rfl [] rfl (Nat.le_of_ble_eq_true rfl) ⟨by decide, by decide⟩ dX12_mark_8 (z_if_eq (pc := 11) hK 27 dX12_mark_11 (by decide) (fun c_3 => ?_) (fun c_3 => ?_)))))))))
  · rw [if_pos c_3] at hg
    exact z_iconst (pc := 27) hK dX12_mark_27 zc_i0 (z_zretE (pc := 28) hK rfl hE hg dX12_mark_28)
  · rw [if_neg c_3] at hg
    refine z_iload_n (pc := 14) hK 2 dX12_mark_14 rfl (z_if_eq (pc := 15) hK 29 dX12_mark_15 (by decide) (fun c_4 => ?_) (fun c_4 => ?_))
    · rw [if_pos c_4] at hg
      exact zsub (lv' := [(0, .ref (G.2.2.2 t0)), (1, .int x1), (2, .int x2)]) [0, 1, 2] rfl (b_X12_mark_29 hK ht0 hE x1 x2 h_1 hg)
    · rw [if_neg c_4] at hg
      obtain ⟨c_5, hg⟩ := zgu_some hg
      refine z_aload_n (pc := 18) hK 0 dX12_mark_18 rfl (z_getR (pc := 19) hK f_X12_117_11 ht0 dX12_mark_19 (z_iload_n (pc := 22) hK 1 dX12_mark_22 rfl (z_zald (pc := 23) hK (zt_11_48 ht0) c_5 dX12_mark_23 (z_if_ne (pc := 24) hK 29 dX12_mark_24 (by decide) (fun c_6 => ?_) (fun c_6 => ?_)))))
      · rw [if_neg c_6] at hg
        exact zsub (lv' := [(0, .ref (G.2.2.2 t0)), (1, .int x1), (2, .int x2)]) [0, 1, 2] rfl (b_X12_mark_29 hK ht0 hE x1 x2 h_1 hg)
      · rw [if_pos c_6] at hg
        exact z_iconst (pc := 27) hK dX12_mark_27 zc_i0 (z_zretE (pc := 28) hK rfl hE hg dX12_mark_28)
theorem m_X12_mark {l : Launch} {G : zG} (hG : zD G) {h : zH} {t0 : Nat} {x1 : Int32} {x2 : Int32} (ht0 : zT t0 = (11, 0)) {r : Bool × zH} (hg : g_X12_mark h t0 x1 x2 = some r) : zM l G yX12_mark cX12_mark 5 (some .boolean) 1 24 [.ref (G.2.2.2 t0), .int x1, .int x2] h (some (.int (zb r.1))) r.2 :=
  zM_of hG pn_X12 (Nat.le_of_ble_eq_true rfl) (fun K _ hK hE => b_X12_mark hK ht0 hE hg)
theorem dX12_allGrudges_0 : decode cX12_allGrudges 0 = .ok (.iconst 0, 1) := by decide +kernel
theorem dX12_allGrudges_1 : decode cX12_allGrudges 1 = .ok (.istore_n 1, 1) := by decide +kernel
theorem dX12_allGrudges_2 : decode cX12_allGrudges 2 = .ok (.iconst 0, 1) := by decide +kernel
theorem dX12_allGrudges_3 : decode cX12_allGrudges 3 = .ok (.istore_n 2, 1) := by decide +kernel
theorem dX12_allGrudges_4 : decode cX12_allGrudges 4 = .ok (.iload_n 2, 1) := by decide +kernel
theorem dX12_allGrudges_5 : decode cX12_allGrudges 5 = .ok (.aload_n 0, 1) := by decide +kernel
theorem dX12_allGrudges_6 : decode cX12_allGrudges 6 = .ok (.getfield 13, 3) := by decide +kernel
theorem dX12_allGrudges_9 : decode cX12_allGrudges 9 = .ok (.iconst 0, 1) := by decide +kernel
theorem dX12_allGrudges_10 : decode cX12_allGrudges 10 = .ok (.iaload, 1) := by decide +kernel
theorem dX12_allGrudges_11 : decode cX12_allGrudges 11 = .ok (.if_icmp .ge 57, 3) := by decide +kernel
theorem dX12_allGrudges_14 : decode cX12_allGrudges 14 = .ok (.iconst 0, 1) := by decide +kernel
theorem dX12_allGrudges_15 : decode cX12_allGrudges 15 = .ok (.istore_n 3, 1) := by decide +kernel
theorem dX12_allGrudges_16 : decode cX12_allGrudges 16 = .ok (.iload_n 3, 1) := by decide +kernel
theorem dX12_allGrudges_17 : decode cX12_allGrudges 17 = .ok (.aload_n 0, 1) := by decide +kernel
theorem dX12_allGrudges_18 : decode cX12_allGrudges 18 = .ok (.getfield 13, 3) := by decide +kernel
theorem dX12_allGrudges_21 : decode cX12_allGrudges 21 = .ok (.iconst 0, 1) := by decide +kernel
theorem dX12_allGrudges_22 : decode cX12_allGrudges 22 = .ok (.iaload, 1) := by decide +kernel
theorem dX12_allGrudges_23 : decode cX12_allGrudges 23 = .ok (.if_icmp .ge 39, 3) := by decide +kernel
theorem dX12_allGrudges_26 : decode cX12_allGrudges 26 = .ok (.iload_n 1, 1) := by decide +kernel
theorem dX12_allGrudges_27 : decode cX12_allGrudges 27 = .ok (.aload_n 0, 1) := by decide +kernel
theorem dX12_allGrudges_28 : decode cX12_allGrudges 28 = .ok (.iload_n 2, 1) := by decide +kernel
theorem dX12_allGrudges_29 : decode cX12_allGrudges 29 = .ok (.iload_n 3, 1) := by decide +kernel
theorem dX12_allGrudges_30 : decode cX12_allGrudges 30 = .ok (.invokevirtual 416, 3) := by decide +kernel
theorem dX12_allGrudges_33 : decode cX12_allGrudges 33 = .ok (.ifCond .eq 20, 3) := by decide +kernel
theorem dX12_allGrudges_36 : decode cX12_allGrudges 36 = .ok (.aload_n 0, 1) := by decide +kernel
theorem dX12_allGrudges_37 : decode cX12_allGrudges 37 = .ok (.getfield 105, 3) := by decide +kernel
theorem dX12_allGrudges_40 : decode cX12_allGrudges 40 = .ok (.bipush 9, 2) := by decide +kernel
theorem dX12_allGrudges_42 : decode cX12_allGrudges 42 = .ok (.bipush 7, 2) := by decide +kernel
theorem dX12_allGrudges_44 : decode cX12_allGrudges 44 = .ok (.iload_n 2, 1) := by decide +kernel
theorem dX12_allGrudges_45 : decode cX12_allGrudges 45 = .ok (.imul, 1) := by decide +kernel
theorem dX12_allGrudges_46 : decode cX12_allGrudges 46 = .ok (.iadd, 1) := by decide +kernel
theorem dX12_allGrudges_47 : decode cX12_allGrudges 47 = .ok (.iload_n 3, 1) := by decide +kernel
theorem dX12_allGrudges_48 : decode cX12_allGrudges 48 = .ok (.iadd, 1) := by decide +kernel
theorem dX12_allGrudges_49 : decode cX12_allGrudges 49 = .ok (.iaload, 1) := by decide +kernel
theorem dX12_allGrudges_50 : decode cX12_allGrudges 50 = .ok (.goto 4, 3) := by decide +kernel
theorem dX12_allGrudges_53 : decode cX12_allGrudges 53 = .ok (.iconst 0, 1) := by decide +kernel
theorem dX12_allGrudges_54 : decode cX12_allGrudges 54 = .ok (.iadd, 1) := by decide +kernel
theorem dX12_allGrudges_55 : decode cX12_allGrudges 55 = .ok (.istore_n 1, 1) := by decide +kernel
theorem dX12_allGrudges_56 : decode cX12_allGrudges 56 = .ok (.iinc 3 1, 3) := by decide +kernel
theorem dX12_allGrudges_59 : decode cX12_allGrudges 59 = .ok (.goto (-43), 3) := by decide +kernel
theorem dX12_allGrudges_62 : decode cX12_allGrudges 62 = .ok (.iinc 2 1, 3) := by decide +kernel
theorem dX12_allGrudges_65 : decode cX12_allGrudges 65 = .ok (.goto (-61), 3) := by decide +kernel
theorem dX12_allGrudges_68 : decode cX12_allGrudges 68 = .ok (.iload_n 1, 1) := by decide +kernel
theorem dX12_allGrudges_69 : decode cX12_allGrudges 69 = .ok (.ireturn, 1) := by decide +kernel
def g_X12_allGrudges_16 (h : zH) (t0 : Nat) (k4 : Int32 → Int32 → Option Int32) : Nat → Int32 → Int32 → Int32 → Option Int32
  | 0, _, _, _ => none
  | n + 1, x1, x2, x3 => zgu (zin 0 8) <| if (h.1 (zR t0 10) (zx 0)) ≤ x3 then (k4 x1 (x2 + 1)) else ((g_X12_areAlive h t0 x2 x3).bind fun v_5 => if (zb v_5) = 0 then (g_X12_allGrudges_16 h t0 k4 n (x1 + 0) x2 (x3 + 1)) else (zgu (zin ((9 + (7 * x2)) + x3) 107) <| zlet (x1 + (h.1 (zR t0 44) (zx ((9 + (7 * x2)) + x3)))) fun v_8 => g_X12_allGrudges_16 h t0 k4 n v_8 x2 (x3 + 1)))
def g_X12_allGrudges_4 (h : zH) (t0 : Nat)  : Nat → Int32 → Int32 → Option Int32
  | 0, _, _ => none
  | n + 1, x1, x2 => zgu (zin 0 8) <| if (h.1 (zR t0 10) (zx 0)) ≤ x2 then (some x1) else (g_X12_allGrudges_16 h t0 (g_X12_allGrudges_4 h t0 n) zfu x1 x2 0)
def g_X12_allGrudges (h : zH) (t0 : Nat) : Option Int32 := g_X12_allGrudges_4 h t0 zfu 0 0
set_option maxRecDepth 100000 in
set_option maxHeartbeats 4000000 in
theorem b_X12_allGrudges_16 {K : zK} {G : zG} (hK : zC K G cX12_allGrudges RX12 4 3 65 (some .int)) {h : zH} {t0 : Nat} (ht0 : zT t0 = (11, 0)) {r : Int32} (hE : zE K G (some (.int r)) h) {k4 : Int32 → Int32 → Option Int32} (hk4 : ∀ (x1 : Int32) (x2 : Int32), k4 x1 x2 = some r → zW K G 4 4 [(0, .ref (G.2.2.2 t0)), (1, .int x1), (2, .int x2)] [] h) : ∀ (n : Nat) (x1 : Int32) (x2 : Int32) (x3 : Int32), g_X12_allGrudges_16 h t0 k4 n x1 x2 x3 = some r → zW K G 4 16 [(0, .ref (G.2.2.2 t0)), (1, .int x1), (2, .int x2), (3, .int x3)] [] h := by
  intro n
  induction n with
  | zero => intro x1 x2 x3 hg; exact nomatch (show none = some r from hg)
  | succ n ih =>
    intro x1 x2 x3 hg
    rw [g_X12_allGrudges_16] at hg
    obtain ⟨c_3, hg⟩ := zgu_some hg
    refine z_iload_n (pc := 16) hK 3 dX12_allGrudges_16 rfl (z_aload_n (pc := 17) hK 0 dX12_allGrudges_17 rfl (z_getR (pc := 18) hK f_X12_13_11 ht0 dX12_allGrudges_18 (z_iconst (pc := 21) hK dX12_allGrudges_21 zc_i0 (z_iald (pc := 22) hK (zt_11_10 ht0) c_3 dX12_allGrudges_22 (z_icmp_ge (pc := 23) hK 62 dX12_allGrudges_23 (by decide) (fun c_4 => ?_) (fun c_4 => ?_))))))
    · rw [if_pos c_4] at hg
      exact z_iinc (pc := 62) hK 2 (lv' := [(2, .int (x2 + 1)), (0, .ref (G.2.2.2 t0)), (1, .int x1), (3, .int x3)]) dX12_allGrudges_62 rfl (zc_n1 _) (by decide) rfl (z_goto (pc := 65) hK 4 dX12_allGrudges_65 (by decide) (zsub (lv' := [(0, .ref (G.2.2.2 t0)), (1, .int x1), (2, .int (x2 + 1))]) [1, 2, 0] rfl (hk4 x1 (x2 + 1) hg)))
    · rw [if_neg c_4] at hg
      obtain ⟨v_5, qv_5, hg⟩ := zbind_some hg
      refine z_iload_n (pc := 26) hK 1 dX12_allGrudges_26 rfl (z_aload_n (pc := 27) hK 0 dX12_allGrudges_27 rfl (z_iload_n (pc := 28) hK 2 dX12_allGrudges_28 rfl (z_iload_n (pc := 29) hK 3 dX12_allGrudges_29 rfl (z_callVi (pc := 30) hK [.int x2, .int x3] (m_X12_areAlive (zC_D hK) ht0 qv_5) sv_X12_areAlive q_1711 ht0 rfl [.int x1] rfl (Nat.le_of_ble_eq_true rfl) ⟨by decide, by decide⟩ dX12_allGrudges_30 (z_if_eq (pc := 33) hK 53 dX12_allGrudges_33 (by decide) (fun c_6 => ?_) (fun c_6 => ?_))))))
      · rw [if_pos c_6] at hg
        exact z_iconst (pc := 53) hK dX12_allGrudges_53 zc_i0 (z_iadd (pc := 54) hK dX12_allGrudges_54 (z_istore_n (pc := 55) hK (lv' := [(1, .int (x1 + 0)), (0, .ref (G.2.2.2 t0)), (2, .int x2), (3, .int x3)]) dX12_allGrudges_55 (by decide) rfl (z_iinc (pc := 56) hK 3 (lv' := [(3, .int (x3 + 1)), (1, .int (x1 + 0)), (0, .ref (G.2.2.2 t0)), (2, .int x2)]) dX12_allGrudges_56 rfl (zc_n1 _) (by decide) rfl (z_goto (pc := 59) hK 16 dX12_allGrudges_59 (by decide) (zsub (lv' := [(0, .ref (G.2.2.2 t0)), (1, .int (x1 + 0)), (2, .int x2), (3, .int (x3 + 1))]) [2, 1, 3, 0] rfl (ih (x1 + 0) x2 (x3 + 1) hg))))))
      · rw [if_neg c_6] at hg
        obtain ⟨c_7, hg⟩ := zgu_some hg
        obtain ⟨v_8, ev_8, hg⟩ := zlet_some hg
        exact z_aload_n (pc := 36) hK 0 dX12_allGrudges_36 rfl (z_getR (pc := 37) hK f_X12_105_11 ht0 dX12_allGrudges_37 (z_bipush (pc := 40) hK dX12_allGrudges_40 zc_b9 (z_bipush (pc := 42) hK dX12_allGrudges_42 zc_b7 (z_iload_n (pc := 44) hK 2 dX12_allGrudges_44 rfl (z_imul (pc := 45) hK dX12_allGrudges_45 (z_iadd (pc := 46) hK dX12_allGrudges_46 (z_iload_n (pc := 47) hK 3 dX12_allGrudges_47 rfl (z_iadd (pc := 48) hK dX12_allGrudges_48 (z_iald (pc := 49) hK (zt_11_44 ht0) c_7 dX12_allGrudges_49 (z_goto (pc := 50) hK 54 dX12_allGrudges_50 (by decide) (z_iadd (pc := 54) hK dX12_allGrudges_54 (z_nameI ev_8 (z_istore_n (pc := 55) hK (lv' := [(1, .int v_8), (0, .ref (G.2.2.2 t0)), (2, .int x2), (3, .int x3)]) dX12_allGrudges_55 (by decide) rfl (z_iinc (pc := 56) hK 3 (lv' := [(3, .int (x3 + 1)), (1, .int v_8), (0, .ref (G.2.2.2 t0)), (2, .int x2)]) dX12_allGrudges_56 rfl (zc_n1 _) (by decide) rfl (z_goto (pc := 59) hK 16 dX12_allGrudges_59 (by decide) (zsub (lv' := [(0, .ref (G.2.2.2 t0)), (1, .int v_8), (2, .int x2), (3, .int (x3 + 1))]) [2, 1, 3, 0] rfl (ih v_8 x2 (x3 + 1) hg)))))))))))))))))
set_option maxRecDepth 100000 in
set_option maxHeartbeats 4000000 in
theorem b_X12_allGrudges_4 {K : zK} {G : zG} (hK : zC K G cX12_allGrudges RX12 4 3 65 (some .int)) {h : zH} {t0 : Nat} (ht0 : zT t0 = (11, 0)) {r : Int32} (hE : zE K G (some (.int r)) h) : ∀ (n : Nat) (x1 : Int32) (x2 : Int32), g_X12_allGrudges_4 h t0 n x1 x2 = some r → zW K G 4 4 [(0, .ref (G.2.2.2 t0)), (1, .int x1), (2, .int x2)] [] h := by
  intro n
  induction n with
  | zero => intro x1 x2 hg; exact nomatch (show none = some r from hg)
  | succ n ih =>
    intro x1 x2 hg
    rw [g_X12_allGrudges_4] at hg
    obtain ⟨c_1, hg⟩ := zgu_some hg
    refine z_iload_n (pc := 4) hK 2 dX12_allGrudges_4 rfl (z_aload_n (pc := 5) hK 0 dX12_allGrudges_5 rfl (z_getR (pc := 6) hK f_X12_13_11 ht0 dX12_allGrudges_6 (z_iconst (pc := 9) hK dX12_allGrudges_9 zc_i0 (z_iald (pc := 10) hK (zt_11_10 ht0) c_1 dX12_allGrudges_10 (z_icmp_ge (pc := 11) hK 68 dX12_allGrudges_11 (by decide) (fun c_2 => ?_) (fun c_2 => ?_))))))
    · rw [if_pos c_2] at hg
      exact z_iload_n (pc := 68) hK 1 dX12_allGrudges_68 rfl (z_iretP (pc := 69) hK hE hg dX12_allGrudges_69)
    · rw [if_neg c_2] at hg
      exact z_iconst (pc := 14) hK dX12_allGrudges_14 zc_i0 (z_istore_n (pc := 15) hK (lv' := [(3, .int 0), (0, .ref (G.2.2.2 t0)), (1, .int x1), (2, .int x2)]) dX12_allGrudges_15 (by decide) rfl (zsub (lv' := [(0, .ref (G.2.2.2 t0)), (1, .int x1), (2, .int x2), (3, .int 0)]) [1, 2, 3, 0] rfl (b_X12_allGrudges_16 hK ht0 hE ih zfu x1 x2 0 hg)))
set_option maxRecDepth 100000 in
set_option maxHeartbeats 4000000 in
theorem b_X12_allGrudges {K : zK} {G : zG} (hK : zC K G cX12_allGrudges RX12 4 3 65 (some .int)) {h : zH} {t0 : Nat} (ht0 : zT t0 = (11, 0)) {r : Int32} (hE : zE K G (some (.int r)) h) (hg : g_X12_allGrudges h t0 = some r) : zW K G 4 0 [(0, .ref (G.2.2.2 t0))] [] h := by
  rw [g_X12_allGrudges] at hg
  exact z_iconst (pc := 0) hK dX12_allGrudges_0 zc_i0 (z_istore_n (pc := 1) hK (lv' := [(1, .int 0), (0, .ref (G.2.2.2 t0))]) dX12_allGrudges_1 (by decide) rfl (z_iconst (pc := 2) hK dX12_allGrudges_2 zc_i0 (z_istore_n (pc := 3) hK (lv' := [(2, .int 0), (1, .int 0), (0, .ref (G.2.2.2 t0))]) dX12_allGrudges_3 (by decide) rfl (zsub (lv' := [(0, .ref (G.2.2.2 t0)), (1, .int 0), (2, .int 0)]) [2, 1, 0] rfl (b_X12_allGrudges_4 hK ht0 hE zfu 0 0 hg)))))
theorem m_X12_allGrudges {l : Launch} {G : zG} (hG : zD G) {h : zH} {t0 : Nat} (ht0 : zT t0 = (11, 0)) {r : Int32} (hg : g_X12_allGrudges h t0 = some r) : zM l G yX12_allGrudges cX12_allGrudges 4 (some .int) 3 65 [.ref (G.2.2.2 t0)] h (some (.int r)) h :=
  zM_of hG pn_X12 (Nat.le_of_ble_eq_true rfl) (fun K _ hK hE => b_X12_allGrudges hK ht0 hE hg)
theorem dX12_allCast_0 : decode cX12_allCast 0 = .ok (.iconst 0, 1) := by decide +kernel
theorem dX12_allCast_1 : decode cX12_allCast 1 = .ok (.istore_n 1, 1) := by decide +kernel
theorem dX12_allCast_2 : decode cX12_allCast 2 = .ok (.iconst 0, 1) := by decide +kernel
theorem dX12_allCast_3 : decode cX12_allCast 3 = .ok (.istore_n 2, 1) := by decide +kernel
theorem dX12_allCast_4 : decode cX12_allCast 4 = .ok (.iload_n 2, 1) := by decide +kernel
theorem dX12_allCast_5 : decode cX12_allCast 5 = .ok (.aload_n 0, 1) := by decide +kernel
theorem dX12_allCast_6 : decode cX12_allCast 6 = .ok (.getfield 13, 3) := by decide +kernel
theorem dX12_allCast_9 : decode cX12_allCast 9 = .ok (.iconst 0, 1) := by decide +kernel
theorem dX12_allCast_10 : decode cX12_allCast 10 = .ok (.iaload, 1) := by decide +kernel
theorem dX12_allCast_11 : decode cX12_allCast 11 = .ok (.if_icmp .ge 17, 3) := by decide +kernel
theorem dX12_allCast_14 : decode cX12_allCast 14 = .ok (.iload_n 1, 1) := by decide +kernel
theorem dX12_allCast_15 : decode cX12_allCast 15 = .ok (.aload_n 0, 1) := by decide +kernel
theorem dX12_allCast_16 : decode cX12_allCast 16 = .ok (.iload_n 2, 1) := by decide +kernel
theorem dX12_allCast_17 : decode cX12_allCast 17 = .ok (.invokevirtual 406, 3) := by decide +kernel
theorem dX12_allCast_20 : decode cX12_allCast 20 = .ok (.iadd, 1) := by decide +kernel
theorem dX12_allCast_21 : decode cX12_allCast 21 = .ok (.istore_n 1, 1) := by decide +kernel
theorem dX12_allCast_22 : decode cX12_allCast 22 = .ok (.iinc 2 1, 3) := by decide +kernel
theorem dX12_allCast_25 : decode cX12_allCast 25 = .ok (.goto (-21), 3) := by decide +kernel
theorem dX12_allCast_28 : decode cX12_allCast 28 = .ok (.iload_n 1, 1) := by decide +kernel
theorem dX12_allCast_29 : decode cX12_allCast 29 = .ok (.ireturn, 1) := by decide +kernel
def g_X12_allCast_4 (h : zH) (t0 : Nat)  : Nat → Int32 → Int32 → Option Int32
  | 0, _, _ => none
  | n + 1, x1, x2 => zgu (zin 0 8) <| if (h.1 (zR t0 10) (zx 0)) ≤ x2 then (some x1) else ((g_X12_castBy h t0 x2).bind fun v_3 => g_X12_allCast_4 h t0 n (x1 + v_3) (x2 + 1))
def g_X12_allCast (h : zH) (t0 : Nat) : Option Int32 := g_X12_allCast_4 h t0 zfu 0 0
set_option maxRecDepth 100000 in
set_option maxHeartbeats 4000000 in
theorem b_X12_allCast_4 {K : zK} {G : zG} (hK : zC K G cX12_allCast RX12 3 1 23 (some .int)) {h : zH} {t0 : Nat} (ht0 : zT t0 = (11, 0)) {r : Int32} (hE : zE K G (some (.int r)) h) : ∀ (n : Nat) (x1 : Int32) (x2 : Int32), g_X12_allCast_4 h t0 n x1 x2 = some r → zW K G 3 4 [(0, .ref (G.2.2.2 t0)), (1, .int x1), (2, .int x2)] [] h := by
  intro n
  induction n with
  | zero => intro x1 x2 hg; exact nomatch (show none = some r from hg)
  | succ n ih =>
    intro x1 x2 hg
    rw [g_X12_allCast_4] at hg
    obtain ⟨c_1, hg⟩ := zgu_some hg
    refine z_iload_n (pc := 4) hK 2 dX12_allCast_4 rfl (z_aload_n (pc := 5) hK 0 dX12_allCast_5 rfl (z_getR (pc := 6) hK f_X12_13_11 ht0 dX12_allCast_6 (z_iconst (pc := 9) hK dX12_allCast_9 zc_i0 (z_iald (pc := 10) hK (zt_11_10 ht0) c_1 dX12_allCast_10 (z_icmp_ge (pc := 11) hK 28 dX12_allCast_11 (by decide) (fun c_2 => ?_) (fun c_2 => ?_))))))
    · rw [if_pos c_2] at hg
      exact z_iload_n (pc := 28) hK 1 dX12_allCast_28 rfl (z_iretP (pc := 29) hK hE hg dX12_allCast_29)
    · rw [if_neg c_2] at hg
      obtain ⟨v_3, qv_3, hg⟩ := zbind_some hg
      exact z_iload_n (pc := 14) hK 1 dX12_allCast_14 rfl (z_aload_n (pc := 15) hK 0 dX12_allCast_15 rfl (z_iload_n (pc := 16) hK 2 dX12_allCast_16 rfl (z_callVi (pc := 17) hK [.int x2] (m_X12_castBy (zC_D hK) ht0 qv_3) sv_X12_castBy q_1632 ht0 rfl [.int x1] rfl (Nat.le_of_ble_eq_true rfl) ⟨by decide, by decide⟩ dX12_allCast_17 (z_iadd (pc := 20) hK dX12_allCast_20 (z_istore_n (pc := 21) hK (lv' := [(1, .int (x1 + v_3)), (0, .ref (G.2.2.2 t0)), (2, .int x2)]) dX12_allCast_21 (by decide) rfl (z_iinc (pc := 22) hK 2 (lv' := [(2, .int (x2 + 1)), (1, .int (x1 + v_3)), (0, .ref (G.2.2.2 t0))]) dX12_allCast_22 rfl (zc_n1 _) (by decide) rfl (z_goto (pc := 25) hK 4 dX12_allCast_25 (by decide) (zsub (lv' := [(0, .ref (G.2.2.2 t0)), (1, .int (x1 + v_3)), (2, .int (x2 + 1))]) [2, 1, 0] rfl (ih (x1 + v_3) (x2 + 1) hg)))))))))
set_option maxRecDepth 100000 in
set_option maxHeartbeats 4000000 in
theorem b_X12_allCast {K : zK} {G : zG} (hK : zC K G cX12_allCast RX12 3 1 23 (some .int)) {h : zH} {t0 : Nat} (ht0 : zT t0 = (11, 0)) {r : Int32} (hE : zE K G (some (.int r)) h) (hg : g_X12_allCast h t0 = some r) : zW K G 3 0 [(0, .ref (G.2.2.2 t0))] [] h := by
  rw [g_X12_allCast] at hg
  exact z_iconst (pc := 0) hK dX12_allCast_0 zc_i0 (z_istore_n (pc := 1) hK (lv' := [(1, .int 0), (0, .ref (G.2.2.2 t0))]) dX12_allCast_1 (by decide) rfl (z_iconst (pc := 2) hK dX12_allCast_2 zc_i0 (z_istore_n (pc := 3) hK (lv' := [(2, .int 0), (1, .int 0), (0, .ref (G.2.2.2 t0))]) dX12_allCast_3 (by decide) rfl (zsub (lv' := [(0, .ref (G.2.2.2 t0)), (1, .int 0), (2, .int 0)]) [2, 1, 0] rfl (b_X12_allCast_4 hK ht0 hE zfu 0 0 hg)))))
theorem m_X12_allCast {l : Launch} {G : zG} (hG : zD G) {h : zH} {t0 : Nat} (ht0 : zT t0 = (11, 0)) {r : Int32} (hg : g_X12_allCast h t0 = some r) : zM l G yX12_allCast cX12_allCast 3 (some .int) 1 23 [.ref (G.2.2.2 t0)] h (some (.int r)) h :=
  zM_of hG pn_X12 (Nat.le_of_ble_eq_true rfl) (fun K _ hK hE => b_X12_allCast hK ht0 hE hg)
theorem dX12_count_0 : decode cX12_count 0 = .ok (.aload_n 0, 1) := by decide +kernel
theorem dX12_count_1 : decode cX12_count 1 = .ok (.iconst 0, 1) := by decide +kernel
theorem dX12_count_2 : decode cX12_count 2 = .ok (.putfield 126, 3) := by decide +kernel
theorem dX12_count_5 : decode cX12_count 5 = .ok (.iload_n 1, 1) := by decide +kernel
theorem dX12_count_6 : decode cX12_count 6 = .ok (.iconst 0, 1) := by decide +kernel
theorem dX12_count_7 : decode cX12_count 7 = .ok (.bipush 12, 2) := by decide +kernel
theorem dX12_count_9 : decode cX12_count 9 = .ok (.invokestatic 259, 3) := by decide +kernel
theorem dX12_count_12 : decode cX12_count 12 = .ok (.ifCond .ne 5, 3) := by decide +kernel
theorem dX12_count_15 : decode cX12_count 15 = .ok (.iconst (-1), 1) := by decide +kernel
theorem dX12_count_16 : decode cX12_count 16 = .ok (.ireturn, 1) := by decide +kernel
theorem dX12_count_17 : decode cX12_count 17 = .ok (.iload_n 1, 1) := by decide +kernel
theorem dX12_count_18 : decode cX12_count 18 = .ok (.iconst 4, 1) := by decide +kernel
theorem dX12_count_19 : decode cX12_count 19 = .ok (.if_icmp .ge 10, 3) := by decide +kernel
theorem dX12_count_22 : decode cX12_count 22 = .ok (.aload_n 0, 1) := by decide +kernel
theorem dX12_count_23 : decode cX12_count 23 = .ok (.getfield 13, 3) := by decide +kernel
theorem dX12_count_26 : decode cX12_count 26 = .ok (.iload_n 1, 1) := by decide +kernel
theorem dX12_count_27 : decode cX12_count 27 = .ok (.iaload, 1) := by decide +kernel
theorem dX12_count_28 : decode cX12_count 28 = .ok (.ireturn, 1) := by decide +kernel
theorem dX12_count_29 : decode cX12_count 29 = .ok (.iload_n 1, 1) := by decide +kernel
theorem dX12_count_30 : decode cX12_count 30 = .ok (.bipush 7, 2) := by decide +kernel
theorem dX12_count_32 : decode cX12_count 32 = .ok (.if_icmp .ge 36, 3) := by decide +kernel
theorem dX12_count_35 : decode cX12_count 35 = .ok (.iload_n 1, 1) := by decide +kernel
theorem dX12_count_36 : decode cX12_count 36 = .ok (.iconst 4, 1) := by decide +kernel
theorem dX12_count_37 : decode cX12_count 37 = .ok (.if_icmp .ne 12, 3) := by decide +kernel
theorem dX12_count_40 : decode cX12_count 40 = .ok (.aload_n 0, 1) := by decide +kernel
theorem dX12_count_41 : decode cX12_count 41 = .ok (.getfield 105, 3) := by decide +kernel
theorem dX12_count_44 : decode cX12_count 44 = .ok (.iconst 0, 1) := by decide +kernel
theorem dX12_count_45 : decode cX12_count 45 = .ok (.iaload, 1) := by decide +kernel
theorem dX12_count_46 : decode cX12_count 46 = .ok (.goto 21, 3) := by decide +kernel
theorem dX12_count_49 : decode cX12_count 49 = .ok (.iload_n 1, 1) := by decide +kernel
theorem dX12_count_50 : decode cX12_count 50 = .ok (.iconst 5, 1) := by decide +kernel
theorem dX12_count_51 : decode cX12_count 51 = .ok (.if_icmp .ne 12, 3) := by decide +kernel
theorem dX12_count_54 : decode cX12_count 54 = .ok (.aload_n 0, 1) := by decide +kernel
theorem dX12_count_55 : decode cX12_count 55 = .ok (.getfield 105, 3) := by decide +kernel
theorem dX12_count_58 : decode cX12_count 58 = .ok (.iconst 1, 1) := by decide +kernel
theorem dX12_count_59 : decode cX12_count 59 = .ok (.iaload, 1) := by decide +kernel
theorem dX12_count_60 : decode cX12_count 60 = .ok (.goto 7, 3) := by decide +kernel
theorem dX12_count_63 : decode cX12_count 63 = .ok (.aload_n 0, 1) := by decide +kernel
theorem dX12_count_64 : decode cX12_count 64 = .ok (.invokevirtual 431, 3) := by decide +kernel
theorem dX12_count_67 : decode cX12_count 67 = .ok (.ireturn, 1) := by decide +kernel
theorem dX12_count_68 : decode cX12_count 68 = .ok (.iload_n 1, 1) := by decide +kernel
theorem dX12_count_69 : decode cX12_count 69 = .ok (.bipush 9, 2) := by decide +kernel
theorem dX12_count_71 : decode cX12_count 71 = .ok (.if_icmp .ge 21, 3) := by decide +kernel
theorem dX12_count_74 : decode cX12_count 74 = .ok (.iload_n 1, 1) := by decide +kernel
theorem dX12_count_75 : decode cX12_count 75 = .ok (.bipush 7, 2) := by decide +kernel
theorem dX12_count_77 : decode cX12_count 77 = .ok (.if_icmp .ne 10, 3) := by decide +kernel
theorem dX12_count_80 : decode cX12_count 80 = .ok (.aload_n 0, 1) := by decide +kernel
theorem dX12_count_81 : decode cX12_count 81 = .ok (.invokevirtual 482, 3) := by decide +kernel
theorem dX12_count_84 : decode cX12_count 84 = .ok (.goto 7, 3) := by decide +kernel
theorem dX12_count_87 : decode cX12_count 87 = .ok (.aload_n 0, 1) := by decide +kernel
theorem dX12_count_88 : decode cX12_count 88 = .ok (.invokevirtual 485, 3) := by decide +kernel
theorem dX12_count_91 : decode cX12_count 91 = .ok (.ireturn, 1) := by decide +kernel
theorem dX12_count_92 : decode cX12_count 92 = .ok (.iload_n 1, 1) := by decide +kernel
theorem dX12_count_93 : decode cX12_count 93 = .ok (.bipush 11, 2) := by decide +kernel
theorem dX12_count_95 : decode cX12_count 95 = .ok (.if_icmp .ge 25, 3) := by decide +kernel
theorem dX12_count_98 : decode cX12_count 98 = .ok (.iload_n 1, 1) := by decide +kernel
theorem dX12_count_99 : decode cX12_count 99 = .ok (.bipush 9, 2) := by decide +kernel
theorem dX12_count_101 : decode cX12_count 101 = .ok (.if_icmp .ne 12, 3) := by decide +kernel
theorem dX12_count_104 : decode cX12_count 104 = .ok (.aload_n 0, 1) := by decide +kernel
theorem dX12_count_105 : decode cX12_count 105 = .ok (.getfield 84, 3) := by decide +kernel
theorem dX12_count_108 : decode cX12_count 108 = .ok (.iconst 0, 1) := by decide +kernel
theorem dX12_count_109 : decode cX12_count 109 = .ok (.iaload, 1) := by decide +kernel
theorem dX12_count_110 : decode cX12_count 110 = .ok (.goto 9, 3) := by decide +kernel
theorem dX12_count_113 : decode cX12_count 113 = .ok (.aload_n 0, 1) := by decide +kernel
theorem dX12_count_114 : decode cX12_count 114 = .ok (.getfield 96, 3) := by decide +kernel
theorem dX12_count_117 : decode cX12_count 117 = .ok (.iconst 0, 1) := by decide +kernel
theorem dX12_count_118 : decode cX12_count 118 = .ok (.iaload, 1) := by decide +kernel
theorem dX12_count_119 : decode cX12_count 119 = .ok (.ireturn, 1) := by decide +kernel
theorem dX12_count_120 : decode cX12_count 120 = .ok (.iload_n 1, 1) := by decide +kernel
theorem dX12_count_121 : decode cX12_count 121 = .ok (.bipush 11, 2) := by decide +kernel
theorem dX12_count_123 : decode cX12_count 123 = .ok (.if_icmp .ne 10, 3) := by decide +kernel
theorem dX12_count_126 : decode cX12_count 126 = .ok (.aload_n 0, 1) := by decide +kernel
theorem dX12_count_127 : decode cX12_count 127 = .ok (.getfield 334, 3) := by decide +kernel
theorem dX12_count_130 : decode cX12_count 130 = .ok (.goto 7, 3) := by decide +kernel
theorem dX12_count_133 : decode cX12_count 133 = .ok (.aload_n 0, 1) := by decide +kernel
theorem dX12_count_134 : decode cX12_count 134 = .ok (.getfield 132, 3) := by decide +kernel
theorem dX12_count_137 : decode cX12_count 137 = .ok (.ireturn, 1) := by decide +kernel
def g_X12_count (h : zH) (t0 : Nat) (x1 : Int32) : Option (Int32 × zH) := zlet (zpi h t0 0 0) fun h_1 => (g_X12_within h_1 x1 0 12).bind fun v_2 => if (zb v_2) = 0 then (some ((-1), h_1)) else (if 4 ≤ x1 then (if 7 ≤ x1 then (if 9 ≤ x1 then (if 11 ≤ x1 then (if x1 = 11 then (some (h_1.1 t0 49, h_1)) else (some (h_1.1 t0 1, h_1))) else (if x1 = 9 then (zgu (zin 0 6) <| some (h_1.1 (zR t0 37) (zx 0), h_1)) else (zgu (zin 0 5) <| some (h_1.1 (zR t0 41) (zx 0), h_1)))) else (if x1 = 7 then ((g_X12_allGrudges h_1 t0).bind fun v_14 => some (v_14, h_1)) else ((g_X12_allCast h_1 t0).bind fun v_13 => some (v_13, h_1)))) else (if x1 = 4 then (zgu (zin 0 107) <| some (h_1.1 (zR t0 44) (zx 0), h_1)) else (if x1 = 5 then (zgu (zin 1 107) <| some (h_1.1 (zR t0 44) (zx 1), h_1)) else ((g_X12_allVotes h_1 t0).bind fun v_17 => some (v_17, h_1))))) else (zgu (zin x1 8) <| some (h_1.1 (zR t0 10) (zx x1), h_1)))
set_option maxRecDepth 100000 in
set_option maxHeartbeats 4000000 in
theorem b_X12_count {K : zK} {G : zG} (hK : zC K G cX12_count RX12 2 4 88 (some .int)) {h : zH} {t0 : Nat} {x1 : Int32} (ht0 : zT t0 = (11, 0)) {r : Int32 × zH} (hE : zE K G (some (.int r.1)) r.2) (hg : g_X12_count h t0 x1 = some r) : zW K G 2 0 [(0, .ref (G.2.2.2 t0)), (1, .int x1)] [] h := by
  rw [g_X12_count] at hg
  obtain ⟨h_1, eh_1, hg⟩ := zlet_some hg
  obtain ⟨v_2, qv_2, hg⟩ := zbind_some hg
  refine z_aload_n (pc := 0) hK 0 dX12_count_0 rfl (z_iconst (pc := 1) hK dX12_count_1 zc_i0 (z_putI (pc := 2) hK f_X12_126_11 fp_11_0 ht0 dX12_count_2 (z_nameH eh_1 (z_iload_n (pc := 5) hK 1 dX12_count_5 rfl (z_iconst (pc := 6) hK dX12_count_6 zc_i0 (z_bipush (pc := 7) hK dX12_count_7 zc_b12 (z_callSi (pc := 9) hK [.int x1, .int 0, .int 12] (m_X12_within (zC_D hK) qv_2) ss_X12_within q_1538 rfl [] rfl (Nat.le_of_ble_eq_true rfl) ⟨by decide, by decide⟩ dX12_count_9 (z_if_ne (pc := 12) hK 17 dX12_count_12 (by decide) (fun c_3 => ?_) (fun c_3 => ?_)))))))))
  · rw [if_neg c_3] at hg
    refine z_iload_n (pc := 17) hK 1 dX12_count_17 rfl (z_iconst (pc := 18) hK dX12_count_18 zc_i4 (z_icmp_ge (pc := 19) hK 29 dX12_count_19 (by decide) (fun c_4 => ?_) (fun c_4 => ?_)))
    · rw [if_pos c_4] at hg
      refine z_iload_n (pc := 29) hK 1 dX12_count_29 rfl (z_bipush (pc := 30) hK dX12_count_30 zc_b7 (z_icmp_ge (pc := 32) hK 68 dX12_count_32 (by decide) (fun c_5 => ?_) (fun c_5 => ?_)))
      · rw [if_pos c_5] at hg
        refine z_iload_n (pc := 68) hK 1 dX12_count_68 rfl (z_bipush (pc := 69) hK dX12_count_69 zc_b9 (z_icmp_ge (pc := 71) hK 92 dX12_count_71 (by decide) (fun c_6 => ?_) (fun c_6 => ?_)))
        · rw [if_pos c_6] at hg
          refine z_iload_n (pc := 92) hK 1 dX12_count_92 rfl (z_bipush (pc := 93) hK dX12_count_93 zc_b11 (z_icmp_ge (pc := 95) hK 120 dX12_count_95 (by decide) (fun c_7 => ?_) (fun c_7 => ?_)))
          · rw [if_pos c_7] at hg
            refine z_iload_n (pc := 120) hK 1 dX12_count_120 rfl (z_bipush (pc := 121) hK dX12_count_121 zc_b11 (z_icmp_ne (pc := 123) hK 133 dX12_count_123 (by decide) (fun c_8 => ?_) (fun c_8 => ?_)))
            · rw [if_neg c_8] at hg
              exact z_aload_n (pc := 133) hK 0 dX12_count_133 rfl (z_getI (pc := 134) hK f_X12_132_11 ht0 dX12_count_134 (z_iretE (pc := 137) hK hE hg dX12_count_137))
            · rw [if_pos c_8] at hg
              exact z_aload_n (pc := 126) hK 0 dX12_count_126 rfl (z_getI (pc := 127) hK f_X12_334_11 ht0 dX12_count_127 (z_goto (pc := 130) hK 137 dX12_count_130 (by decide) (z_iretE (pc := 137) hK hE hg dX12_count_137)))
          · rw [if_neg c_7] at hg
            refine z_iload_n (pc := 98) hK 1 dX12_count_98 rfl (z_bipush (pc := 99) hK dX12_count_99 zc_b9 (z_icmp_ne (pc := 101) hK 113 dX12_count_101 (by decide) (fun c_9 => ?_) (fun c_9 => ?_)))
            · rw [if_neg c_9] at hg
              obtain ⟨c_10, hg⟩ := zgu_some hg
              exact z_aload_n (pc := 113) hK 0 dX12_count_113 rfl (z_getR (pc := 114) hK f_X12_96_11 ht0 dX12_count_114 (z_iconst (pc := 117) hK dX12_count_117 zc_i0 (z_iald (pc := 118) hK (zt_11_41 ht0) c_10 dX12_count_118 (z_iretE (pc := 119) hK hE hg dX12_count_119))))
            · rw [if_pos c_9] at hg
              obtain ⟨c_11, hg⟩ := zgu_some hg
              exact z_aload_n (pc := 104) hK 0 dX12_count_104 rfl (z_getR (pc := 105) hK f_X12_84_11 ht0 dX12_count_105 (z_iconst (pc := 108) hK dX12_count_108 zc_i0 (z_iald (pc := 109) hK (zt_11_37 ht0) c_11 dX12_count_109 (z_goto (pc := 110) hK 119 dX12_count_110 (by decide) (z_iretE (pc := 119) hK hE hg dX12_count_119)))))
        · rw [if_neg c_6] at hg
          refine z_iload_n (pc := 74) hK 1 dX12_count_74 rfl (z_bipush (pc := 75) hK dX12_count_75 zc_b7 (z_icmp_ne (pc := 77) hK 87 dX12_count_77 (by decide) (fun c_12 => ?_) (fun c_12 => ?_)))
          · rw [if_neg c_12] at hg
            obtain ⟨v_13, qv_13, hg⟩ := zbind_some hg
            exact z_aload_n (pc := 87) hK 0 dX12_count_87 rfl (z_callVi (pc := 88) hK [] (m_X12_allCast (zC_D hK) ht0 qv_13) sv_X12_allCast q_1891 ht0 rfl [] rfl (Nat.le_of_ble_eq_true rfl) ⟨by decide, by decide⟩ dX12_count_88 (z_iretE (pc := 91) hK hE hg dX12_count_91))
          · rw [if_pos c_12] at hg
            obtain ⟨v_14, qv_14, hg⟩ := zbind_some hg
            exact z_aload_n (pc := 80) hK 0 dX12_count_80 rfl (z_callVi (pc := 81) hK [] (m_X12_allGrudges (zC_D hK) ht0 qv_14) sv_X12_allGrudges q_1887 ht0 rfl [] rfl (Nat.le_of_ble_eq_true rfl) ⟨by decide, by decide⟩ dX12_count_81 (z_goto (pc := 84) hK 91 dX12_count_84 (by decide) (z_iretE (pc := 91) hK hE hg dX12_count_91)))
      · rw [if_neg c_5] at hg
        refine z_iload_n (pc := 35) hK 1 dX12_count_35 rfl (z_iconst (pc := 36) hK dX12_count_36 zc_i4 (z_icmp_ne (pc := 37) hK 49 dX12_count_37 (by decide) (fun c_15 => ?_) (fun c_15 => ?_)))
        · rw [if_neg c_15] at hg
          refine z_iload_n (pc := 49) hK 1 dX12_count_49 rfl (z_iconst (pc := 50) hK dX12_count_50 zc_i5 (z_icmp_ne (pc := 51) hK 63 dX12_count_51 (by decide) (fun c_16 => ?_) (fun c_16 => ?_)))
          · rw [if_neg c_16] at hg
            obtain ⟨v_17, qv_17, hg⟩ := zbind_some hg
            exact z_aload_n (pc := 63) hK 0 dX12_count_63 rfl (z_callVi (pc := 64) hK [] (m_X12_allVotes (zC_D hK) ht0 qv_17) sv_X12_allVotes q_1780 ht0 rfl [] rfl (Nat.le_of_ble_eq_true rfl) ⟨by decide, by decide⟩ dX12_count_64 (z_iretE (pc := 67) hK hE hg dX12_count_67))
          · rw [if_pos c_16] at hg
            obtain ⟨c_18, hg⟩ := zgu_some hg
            exact z_aload_n (pc := 54) hK 0 dX12_count_54 rfl (z_getR (pc := 55) hK f_X12_105_11 ht0 dX12_count_55 (z_iconst (pc := 58) hK dX12_count_58 zc_i1 (z_iald (pc := 59) hK (zt_11_44 ht0) c_18 dX12_count_59 (z_goto (pc := 60) hK 67 dX12_count_60 (by decide) (z_iretE (pc := 67) hK hE hg dX12_count_67)))))
        · rw [if_pos c_15] at hg
          obtain ⟨c_19, hg⟩ := zgu_some hg
          exact z_aload_n (pc := 40) hK 0 dX12_count_40 rfl (z_getR (pc := 41) hK f_X12_105_11 ht0 dX12_count_41 (z_iconst (pc := 44) hK dX12_count_44 zc_i0 (z_iald (pc := 45) hK (zt_11_44 ht0) c_19 dX12_count_45 (z_goto (pc := 46) hK 67 dX12_count_46 (by decide) (z_iretE (pc := 67) hK hE hg dX12_count_67)))))
    · rw [if_neg c_4] at hg
      obtain ⟨c_20, hg⟩ := zgu_some hg
      exact z_aload_n (pc := 22) hK 0 dX12_count_22 rfl (z_getR (pc := 23) hK f_X12_13_11 ht0 dX12_count_23 (z_iload_n (pc := 26) hK 1 dX12_count_26 rfl (z_iald (pc := 27) hK (zt_11_10 ht0) c_20 dX12_count_27 (z_iretE (pc := 28) hK hE hg dX12_count_28))))
  · rw [if_pos c_3] at hg
    exact z_iconst (pc := 15) hK dX12_count_15 zc_im1 (z_iretE (pc := 16) hK hE hg dX12_count_16)
theorem m_X12_count {l : Launch} {G : zG} (hG : zD G) {h : zH} {t0 : Nat} {x1 : Int32} (ht0 : zT t0 = (11, 0)) {r : Int32 × zH} (hg : g_X12_count h t0 x1 = some r) : zM l G yX12_count cX12_count 2 (some .int) 4 88 [.ref (G.2.2.2 t0), .int x1] h (some (.int r.1)) r.2 :=
  zM_of hG pn_X12 (Nat.le_of_ble_eq_true rfl) (fun K _ hK hE => b_X12_count hK ht0 hE hg)
