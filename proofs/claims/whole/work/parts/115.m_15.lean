theorem dX12_nextOf_0 : decode cX12_nextOf 0 = .ok (.aload_n 0, 1) := by decide +kernel
theorem dX12_nextOf_1 : decode cX12_nextOf 1 = .ok (.iload_n 1, 1) := by decide +kernel
theorem dX12_nextOf_2 : decode cX12_nextOf 2 = .ok (.invokevirtual 391, 3) := by decide +kernel
theorem dX12_nextOf_5 : decode cX12_nextOf 5 = .ok (.ifCond .eq 11, 3) := by decide +kernel
theorem dX12_nextOf_8 : decode cX12_nextOf 8 = .ok (.aload_n 0, 1) := by decide +kernel
theorem dX12_nextOf_9 : decode cX12_nextOf 9 = .ok (.iload_n 1, 1) := by decide +kernel
theorem dX12_nextOf_10 : decode cX12_nextOf 10 = .ok (.invokevirtual 394, 3) := by decide +kernel
theorem dX12_nextOf_13 : decode cX12_nextOf 13 = .ok (.goto 4, 3) := by decide +kernel
theorem dX12_nextOf_16 : decode cX12_nextOf 16 = .ok (.iconst (-1), 1) := by decide +kernel
theorem dX12_nextOf_17 : decode cX12_nextOf 17 = .ok (.istore_n 3, 1) := by decide +kernel
theorem dX12_nextOf_18 : decode cX12_nextOf 18 = .ok (.iload_n 3, 1) := by decide +kernel
theorem dX12_nextOf_19 : decode cX12_nextOf 19 = .ok (.ifCond .lt 30, 3) := by decide +kernel
theorem dX12_nextOf_22 : decode cX12_nextOf 22 = .ok (.aload_n 0, 1) := by decide +kernel
theorem dX12_nextOf_23 : decode cX12_nextOf 23 = .ok (.getfield 105, 3) := by decide +kernel
theorem dX12_nextOf_26 : decode cX12_nextOf 26 = .ok (.bipush 9, 2) := by decide +kernel
theorem dX12_nextOf_28 : decode cX12_nextOf 28 = .ok (.bipush 7, 2) := by decide +kernel
theorem dX12_nextOf_30 : decode cX12_nextOf 30 = .ok (.iload_n 1, 1) := by decide +kernel
theorem dX12_nextOf_31 : decode cX12_nextOf 31 = .ok (.imul, 1) := by decide +kernel
theorem dX12_nextOf_32 : decode cX12_nextOf 32 = .ok (.iadd, 1) := by decide +kernel
theorem dX12_nextOf_33 : decode cX12_nextOf 33 = .ok (.iload_n 3, 1) := by decide +kernel
theorem dX12_nextOf_34 : decode cX12_nextOf 34 = .ok (.iadd, 1) := by decide +kernel
theorem dX12_nextOf_35 : decode cX12_nextOf 35 = .ok (.iaload, 1) := by decide +kernel
theorem dX12_nextOf_36 : decode cX12_nextOf 36 = .ok (.aload_n 0, 1) := by decide +kernel
theorem dX12_nextOf_37 : decode cX12_nextOf 37 = .ok (.iload_n 1, 1) := by decide +kernel
theorem dX12_nextOf_38 : decode cX12_nextOf 38 = .ok (.iload_n 2, 1) := by decide +kernel
theorem dX12_nextOf_39 : decode cX12_nextOf 39 = .ok (.invokevirtual 397, 3) := by decide +kernel
theorem dX12_nextOf_42 : decode cX12_nextOf 42 = .ok (.if_icmp .lt 7, 3) := by decide +kernel
theorem dX12_nextOf_45 : decode cX12_nextOf 45 = .ok (.iload_n 3, 1) := by decide +kernel
theorem dX12_nextOf_46 : decode cX12_nextOf 46 = .ok (.goto 4, 3) := by decide +kernel
theorem dX12_nextOf_49 : decode cX12_nextOf 49 = .ok (.iconst (-1), 1) := by decide +kernel
theorem dX12_nextOf_50 : decode cX12_nextOf 50 = .ok (.ireturn, 1) := by decide +kernel
def g_X12_nextOf_17 (h : zH) (t0 : Nat)  (x1 : Int32) (x2 : Int32) (s0 : Int32) : Option Int32 := if s0 < 0 then (some (-1)) else (zgu (zin ((9 + (7 * x1)) + s0) 107) <| (g_X12_barOf h t0 x1 x2).bind fun v_6 => if (h.1 (zR t0 44) (zx ((9 + (7 * x1)) + s0))) < v_6 then (some (-1)) else (some s0))
def g_X12_nextOf (h : zH) (t0 : Nat) (x1 : Int32) (x2 : Int32) : Option Int32 := (g_X12_mayCast h t0 x1).bind fun v_1 => if (zb v_1) = 0 then (g_X12_nextOf_17 h t0 x1 x2 (-1)) else ((g_X12_hated h t0 x1).bind fun v_3 => g_X12_nextOf_17 h t0 x1 x2 v_3)
set_option maxRecDepth 100000 in
set_option maxHeartbeats 4000000 in
theorem b_X12_nextOf_17 {K : zK} {G : zG} (hK : zC K G cX12_nextOf RX12 4 2 44 (some .int)) {h : zH} {t0 : Nat} (ht0 : zT t0 = (11, 0)) {r : Int32} (hE : zE K G (some (.int r)) h) (x1 : Int32) (x2 : Int32) (s0 : Int32) (hg : g_X12_nextOf_17 h t0 x1 x2 s0 = some r) : zW K G 4 17 [(0, .ref (G.2.2.2 t0)), (1, .int x1), (2, .int x2)] [.int s0] h := by
  rw [g_X12_nextOf_17] at hg
  refine z_istore_n (pc := 17) hK (lv' := [(3, .int s0), (0, .ref (G.2.2.2 t0)), (1, .int x1), (2, .int x2)]) dX12_nextOf_17 (by decide) rfl (z_iload_n (pc := 18) hK 0 dX12_nextOf_18 rfl (z_if_lt (pc := 19) hK 49 dX12_nextOf_19 (by decide) (fun c_4 => ?_) (fun c_4 => ?_)))
  · rw [if_pos c_4] at hg
    exact z_iconst (pc := 49) hK dX12_nextOf_49 zc_im1 (z_iretP (pc := 50) hK hE hg dX12_nextOf_50)
  · rw [if_neg c_4] at hg
    obtain ⟨c_5, hg⟩ := zgu_some hg
    obtain ⟨v_6, qv_6, hg⟩ := zbind_some hg
    refine z_aload_n (pc := 22) hK 1 dX12_nextOf_22 rfl (z_getR (pc := 23) hK f_X12_105_11 ht0 dX12_nextOf_23 (z_bipush (pc := 26) hK dX12_nextOf_26 zc_b9 (z_bipush (pc := 28) hK dX12_nextOf_28 zc_b7 (z_iload_n (pc := 30) hK 2 dX12_nextOf_30 rfl (z_imul (pc := 31) hK dX12_nextOf_31 (z_iadd (pc := 32) hK dX12_nextOf_32 (z_iload_n (pc := 33) hK 0 dX12_nextOf_33 rfl (z_iadd (pc := 34) hK dX12_nextOf_34 (z_iald (pc := 35) hK (zt_11_44 ht0) c_5 dX12_nextOf_35 (z_aload_n (pc := 36) hK 1 dX12_nextOf_36 rfl (z_iload_n (pc := 37) hK 2 dX12_nextOf_37 rfl (z_iload_n (pc := 38) hK 3 dX12_nextOf_38 rfl (z_callVi (pc := 39) hK [.int x1, .int x2] (m_X12_barOf (zC_D hK) ht0 qv_6) sv_X12_barOf q_1756 ht0 rfl [.int (h.1 (zR t0 44) (zx ((9 + (7 * x1)) + s0)))] rfl (Nat.le_of_ble_eq_true rfl) ⟨by decide, by decide⟩ dX12_nextOf_39 (z_icmp_lt (pc := 42) hK 49 dX12_nextOf_42 (by decide) (fun c_7 => ?_) (fun c_7 => ?_)))))))))))))))
    · rw [if_pos c_7] at hg
      exact z_iconst (pc := 49) hK dX12_nextOf_49 zc_im1 (z_iretP (pc := 50) hK hE hg dX12_nextOf_50)
    · rw [if_neg c_7] at hg
      exact z_iload_n (pc := 45) hK 0 dX12_nextOf_45 rfl (z_goto (pc := 46) hK 50 dX12_nextOf_46 (by decide) (z_iretP (pc := 50) hK hE hg dX12_nextOf_50))
set_option maxRecDepth 100000 in
set_option maxHeartbeats 4000000 in
theorem b_X12_nextOf {K : zK} {G : zG} (hK : zC K G cX12_nextOf RX12 4 2 44 (some .int)) {h : zH} {t0 : Nat} {x1 : Int32} {x2 : Int32} (ht0 : zT t0 = (11, 0)) {r : Int32} (hE : zE K G (some (.int r)) h) (hg : g_X12_nextOf h t0 x1 x2 = some r) : zW K G 4 0 [(0, .ref (G.2.2.2 t0)), (1, .int x1), (2, .int x2)] [] h := by
  rw [g_X12_nextOf] at hg
  obtain ⟨v_1, qv_1, hg⟩ := zbind_some hg
  refine z_aload_n (pc := 0) hK 0 dX12_nextOf_0 rfl (z_iload_n (pc := 1) hK 1 dX12_nextOf_1 rfl (z_callVi (pc := 2) hK [.int x1] (m_X12_mayCast (zC_D hK) ht0 qv_1) sv_X12_mayCast q_1748 ht0 rfl [] rfl (Nat.le_of_ble_eq_true rfl) ⟨by decide, by decide⟩ dX12_nextOf_2 (z_if_eq (pc := 5) hK 16 dX12_nextOf_5 (by decide) (fun c_2 => ?_) (fun c_2 => ?_))))
  · rw [if_pos c_2] at hg
    exact z_iconst (pc := 16) hK dX12_nextOf_16 zc_im1 (zsub (lv' := [(0, .ref (G.2.2.2 t0)), (1, .int x1), (2, .int x2)]) [0, 1, 2] rfl (b_X12_nextOf_17 hK ht0 hE x1 x2 (-1) hg))
  · rw [if_neg c_2] at hg
    obtain ⟨v_3, qv_3, hg⟩ := zbind_some hg
    exact z_aload_n (pc := 8) hK 0 dX12_nextOf_8 rfl (z_iload_n (pc := 9) hK 1 dX12_nextOf_9 rfl (z_callVi (pc := 10) hK [.int x1] (m_X12_hated (zC_D hK) ht0 qv_3) sv_X12_hated q_1752 ht0 rfl [] rfl (Nat.le_of_ble_eq_true rfl) ⟨by decide, by decide⟩ dX12_nextOf_10 (z_goto (pc := 13) hK 17 dX12_nextOf_13 (by decide) (zsub (lv' := [(0, .ref (G.2.2.2 t0)), (1, .int x1), (2, .int x2)]) [0, 1, 2] rfl (b_X12_nextOf_17 hK ht0 hE x1 x2 v_3 hg)))))
theorem m_X12_nextOf {l : Launch} {G : zG} (hG : zD G) {h : zH} {t0 : Nat} {x1 : Int32} {x2 : Int32} (ht0 : zT t0 = (11, 0)) {r : Int32} (hg : g_X12_nextOf h t0 x1 x2 = some r) : zM l G yX12_nextOf cX12_nextOf 4 (some .int) 2 44 [.ref (G.2.2.2 t0), .int x1, .int x2] h (some (.int r)) h :=
  zM_of hG pn_X12 (Nat.le_of_ble_eq_true rfl) (fun K _ hK hE => b_X12_nextOf hK ht0 hE hg)
theorem dX12_passes_0 : decode cX12_passes 0 = .ok (.iconst 0, 1) := by decide +kernel
theorem dX12_passes_1 : decode cX12_passes 1 = .ok (.istore_n 2, 1) := by decide +kernel
theorem dX12_passes_2 : decode cX12_passes 2 = .ok (.iconst 0, 1) := by decide +kernel
theorem dX12_passes_3 : decode cX12_passes 3 = .ok (.istore_n 3, 1) := by decide +kernel
theorem dX12_passes_4 : decode cX12_passes 4 = .ok (.iload_n 3, 1) := by decide +kernel
theorem dX12_passes_5 : decode cX12_passes 5 = .ok (.aload_n 0, 1) := by decide +kernel
theorem dX12_passes_6 : decode cX12_passes 6 = .ok (.getfield 13, 3) := by decide +kernel
theorem dX12_passes_9 : decode cX12_passes 9 = .ok (.iconst 0, 1) := by decide +kernel
theorem dX12_passes_10 : decode cX12_passes 10 = .ok (.iaload, 1) := by decide +kernel
theorem dX12_passes_11 : decode cX12_passes 11 = .ok (.if_icmp .ge 51, 3) := by decide +kernel
theorem dX12_passes_14 : decode cX12_passes 14 = .ok (.aload_n 0, 1) := by decide +kernel
theorem dX12_passes_15 : decode cX12_passes 15 = .ok (.iload_n 3, 1) := by decide +kernel
theorem dX12_passes_16 : decode cX12_passes 16 = .ok (.iload_n 1, 1) := by decide +kernel
theorem dX12_passes_17 : decode cX12_passes 17 = .ok (.invokevirtual 400, 3) := by decide +kernel
theorem dX12_passes_20 : decode cX12_passes 20 = .ok (.istore 4, 2) := by decide +kernel
theorem dX12_passes_22 : decode cX12_passes 22 = .ok (.iload 4, 2) := by decide +kernel
theorem dX12_passes_24 : decode cX12_passes 24 = .ok (.ifCond .ge 6, 3) := by decide +kernel
theorem dX12_passes_27 : decode cX12_passes 27 = .ok (.goto 29, 3) := by decide +kernel
theorem dX12_passes_30 : decode cX12_passes 30 = .ok (.aload_n 0, 1) := by decide +kernel
theorem dX12_passes_31 : decode cX12_passes 31 = .ok (.iload_n 3, 1) := by decide +kernel
theorem dX12_passes_32 : decode cX12_passes 32 = .ok (.iload 4, 2) := by decide +kernel
theorem dX12_passes_34 : decode cX12_passes 34 = .ok (.invokevirtual 403, 3) := by decide +kernel
theorem dX12_passes_37 : decode cX12_passes 37 = .ok (.aload_n 0, 1) := by decide +kernel
theorem dX12_passes_38 : decode cX12_passes 38 = .ok (.getfield 105, 3) := by decide +kernel
theorem dX12_passes_41 : decode cX12_passes 41 = .ok (.bipush 9, 2) := by decide +kernel
theorem dX12_passes_43 : decode cX12_passes 43 = .ok (.bipush 7, 2) := by decide +kernel
theorem dX12_passes_45 : decode cX12_passes 45 = .ok (.iload_n 3, 1) := by decide +kernel
theorem dX12_passes_46 : decode cX12_passes 46 = .ok (.imul, 1) := by decide +kernel
theorem dX12_passes_47 : decode cX12_passes 47 = .ok (.iadd, 1) := by decide +kernel
theorem dX12_passes_48 : decode cX12_passes 48 = .ok (.iload 4, 2) := by decide +kernel
theorem dX12_passes_50 : decode cX12_passes 50 = .ok (.iadd, 1) := by decide +kernel
theorem dX12_passes_51 : decode cX12_passes 51 = .ok (.iconst 0, 1) := by decide +kernel
theorem dX12_passes_52 : decode cX12_passes 52 = .ok (.iastore, 1) := by decide +kernel
theorem dX12_passes_53 : decode cX12_passes 53 = .ok (.iinc 2 1, 3) := by decide +kernel
theorem dX12_passes_56 : decode cX12_passes 56 = .ok (.iinc 3 1, 3) := by decide +kernel
theorem dX12_passes_59 : decode cX12_passes 59 = .ok (.goto (-55), 3) := by decide +kernel
theorem dX12_passes_62 : decode cX12_passes 62 = .ok (.aload_n 0, 1) := by decide +kernel
theorem dX12_passes_63 : decode cX12_passes 63 = .ok (.getfield 105, 3) := by decide +kernel
theorem dX12_passes_66 : decode cX12_passes 66 = .ok (.iconst 0, 1) := by decide +kernel
theorem dX12_passes_67 : decode cX12_passes 67 = .ok (.dup2, 1) := by decide +kernel
theorem dX12_passes_68 : decode cX12_passes 68 = .ok (.iaload, 1) := by decide +kernel
theorem dX12_passes_69 : decode cX12_passes 69 = .ok (.iconst 1, 1) := by decide +kernel
theorem dX12_passes_70 : decode cX12_passes 70 = .ok (.iadd, 1) := by decide +kernel
theorem dX12_passes_71 : decode cX12_passes 71 = .ok (.iastore, 1) := by decide +kernel
theorem dX12_passes_72 : decode cX12_passes 72 = .ok (.iload_n 2, 1) := by decide +kernel
theorem dX12_passes_73 : decode cX12_passes 73 = .ok (.ireturn, 1) := by decide +kernel
def g_X12_passes_4 (t0 : Nat)  : Nat → Int32 → Int32 → Int32 → zH → Option (Int32 × zH)
  | 0, _, _, _, _ => none
  | n + 1, x1, x2, x3, h => zgu (zin 0 8) <| if (h.1 (zR t0 10) (zx 0)) ≤ x3 then (zgu (zin 0 107) <| zgu (zin 0 107) <| zlet (zpi h (zR t0 44) (zx 0) ((h.1 (zR t0 44) (zx 0)) + 1)) fun h_5 => some (x2, h_5)) else ((g_X12_nextOf h t0 x3 x1).bind fun v_6 => if 0 ≤ v_6 then ((g_X12_casts h t0 x3 v_6).bind fun v_8 => zgu (zin ((9 + (7 * x3)) + v_6) 107) <| zlet (zpi v_8 (zR t0 44) (zx ((9 + (7 * x3)) + v_6)) 0) fun h_10 => g_X12_passes_4 t0 n x1 (x2 + 1) (x3 + 1) h_10) else (g_X12_passes_4 t0 n x1 x2 (x3 + 1) h))
def g_X12_passes (h : zH) (t0 : Nat) (x1 : Int32) : Option (Int32 × zH) := g_X12_passes_4 t0 zfu x1 0 0 h
set_option maxRecDepth 100000 in
set_option maxHeartbeats 4000000 in
theorem b_X12_passes_4 {K : zK} {G : zG} (hK : zC K G cX12_passes RX12 5 3 67 (some .int)) {t0 : Nat} (ht0 : zT t0 = (11, 0)) {r : Int32 × zH} (hE : zE K G (some (.int r.1)) r.2) : ∀ (n : Nat) (x1 : Int32) (x2 : Int32) (x3 : Int32) (h : zH), g_X12_passes_4 t0 n x1 x2 x3 h = some r → zW K G 5 4 [(0, .ref (G.2.2.2 t0)), (1, .int x1), (2, .int x2), (3, .int x3)] [] h := by
  intro n
  induction n with
  | zero => intro x1 x2 x3 h hg; exact nomatch (show none = some r from hg)
  | succ n ih =>
    intro x1 x2 x3 h hg
    rw [g_X12_passes_4] at hg
    obtain ⟨c_1, hg⟩ := zgu_some hg
    refine z_iload_n (pc := 4) hK 3 dX12_passes_4 rfl (z_aload_n (pc := 5) hK 0 dX12_passes_5 rfl (z_getR (pc := 6) hK f_X12_13_11 ht0 dX12_passes_6 (z_iconst (pc := 9) hK dX12_passes_9 zc_i0 (z_iald (pc := 10) hK (zt_11_10 ht0) c_1 dX12_passes_10 (z_icmp_ge (pc := 11) hK 62 dX12_passes_11 (by decide) (fun c_2 => ?_) (fun c_2 => ?_))))))
    · rw [if_pos c_2] at hg
      obtain ⟨c_3, hg⟩ := zgu_some hg
      obtain ⟨c_4, hg⟩ := zgu_some hg
      obtain ⟨h_5, eh_5, hg⟩ := zlet_some hg
      exact z_aload_n (pc := 62) hK 0 dX12_passes_62 rfl (z_getR (pc := 63) hK f_X12_105_11 ht0 dX12_passes_63 (z_iconst (pc := 66) hK dX12_passes_66 zc_i0 (z_dup2 (pc := 67) hK dX12_passes_67 rfl rfl (z_iald (pc := 68) hK (zt_11_44 ht0) c_3 dX12_passes_68 (z_iconst (pc := 69) hK dX12_passes_69 zc_i1 (z_iadd (pc := 70) hK dX12_passes_70 (z_iast (pc := 71) hK (zt_11_44 ht0) c_4 dX12_passes_71 (z_nameH eh_5 (z_iload_n (pc := 72) hK 2 dX12_passes_72 rfl (z_iretE (pc := 73) hK hE hg dX12_passes_73))))))))))
    · rw [if_neg c_2] at hg
      obtain ⟨v_6, qv_6, hg⟩ := zbind_some hg
      refine z_aload_n (pc := 14) hK 0 dX12_passes_14 rfl (z_iload_n (pc := 15) hK 3 dX12_passes_15 rfl (z_iload_n (pc := 16) hK 1 dX12_passes_16 rfl (z_callVi (pc := 17) hK [.int x3, .int x1] (m_X12_nextOf (zC_D hK) ht0 qv_6) sv_X12_nextOf q_1744 ht0 rfl [] rfl (Nat.le_of_ble_eq_true rfl) ⟨by decide, by decide⟩ dX12_passes_17 (z_istore (pc := 20) hK (lv' := [(4, .int v_6), (0, .ref (G.2.2.2 t0)), (1, .int x1), (2, .int x2), (3, .int x3)]) dX12_passes_20 (by decide) rfl (z_iload (pc := 22) hK 0 dX12_passes_22 rfl (z_if_ge (pc := 24) hK 30 dX12_passes_24 (by decide) (fun c_7 => ?_) (fun c_7 => ?_)))))))
      · rw [if_pos c_7] at hg
        obtain ⟨v_8, qv_8, hg⟩ := zbind_some hg
        obtain ⟨c_9, hg⟩ := zgu_some hg
        obtain ⟨h_10, eh_10, hg⟩ := zlet_some hg
        exact z_aload_n (pc := 30) hK 1 dX12_passes_30 rfl (z_iload_n (pc := 31) hK 4 dX12_passes_31 rfl (z_iload (pc := 32) hK 0 dX12_passes_32 rfl (z_callVv (pc := 34) hK [.int x3, .int v_6] (m_X12_casts (zC_D hK) ht0 qv_8) sv_X12_casts q_1724 ht0 rfl [] rfl (Nat.le_of_ble_eq_true rfl) ⟨by decide, by decide⟩ dX12_passes_34 (z_aload_n (pc := 37) hK 1 dX12_passes_37 rfl (z_getR (pc := 38) hK f_X12_105_11 ht0 dX12_passes_38 (z_bipush (pc := 41) hK dX12_passes_41 zc_b9 (z_bipush (pc := 43) hK dX12_passes_43 zc_b7 (z_iload_n (pc := 45) hK 4 dX12_passes_45 rfl (z_imul (pc := 46) hK dX12_passes_46 (z_iadd (pc := 47) hK dX12_passes_47 (z_iload (pc := 48) hK 0 dX12_passes_48 rfl (z_iadd (pc := 50) hK dX12_passes_50 (z_iconst (pc := 51) hK dX12_passes_51 zc_i0 (z_iast (pc := 52) hK (zt_11_44 ht0) c_9 dX12_passes_52 (z_nameH eh_10 (z_iinc (pc := 53) hK 3 (lv' := [(2, .int (x2 + 1)), (4, .int v_6), (0, .ref (G.2.2.2 t0)), (1, .int x1), (3, .int x3)]) dX12_passes_53 rfl (zc_n1 _) (by decide) rfl (z_iinc (pc := 56) hK 4 (lv' := [(3, .int (x3 + 1)), (2, .int (x2 + 1)), (4, .int v_6), (0, .ref (G.2.2.2 t0)), (1, .int x1)]) dX12_passes_56 rfl (zc_n1 _) (by decide) rfl (z_goto (pc := 59) hK 4 dX12_passes_59 (by decide) (zsub (lv' := [(0, .ref (G.2.2.2 t0)), (1, .int x1), (2, .int (x2 + 1)), (3, .int (x3 + 1))]) [3, 4, 1, 0] rfl (ih x1 (x2 + 1) (x3 + 1) h_10 hg))))))))))))))))))))
      · rw [if_neg c_7] at hg
        exact z_goto (pc := 27) hK 56 dX12_passes_27 (by decide) (z_iinc (pc := 56) hK 4 (lv' := [(3, .int (x3 + 1)), (4, .int v_6), (0, .ref (G.2.2.2 t0)), (1, .int x1), (2, .int x2)]) dX12_passes_56 rfl (zc_n1 _) (by decide) rfl (z_goto (pc := 59) hK 4 dX12_passes_59 (by decide) (zsub (lv' := [(0, .ref (G.2.2.2 t0)), (1, .int x1), (2, .int x2), (3, .int (x3 + 1))]) [2, 3, 4, 0] rfl (ih x1 x2 (x3 + 1) h hg))))
set_option maxRecDepth 100000 in
set_option maxHeartbeats 4000000 in
theorem b_X12_passes {K : zK} {G : zG} (hK : zC K G cX12_passes RX12 5 3 67 (some .int)) {h : zH} {t0 : Nat} {x1 : Int32} (ht0 : zT t0 = (11, 0)) {r : Int32 × zH} (hE : zE K G (some (.int r.1)) r.2) (hg : g_X12_passes h t0 x1 = some r) : zW K G 5 0 [(0, .ref (G.2.2.2 t0)), (1, .int x1)] [] h := by
  rw [g_X12_passes] at hg
  exact z_iconst (pc := 0) hK dX12_passes_0 zc_i0 (z_istore_n (pc := 1) hK (lv' := [(2, .int 0), (0, .ref (G.2.2.2 t0)), (1, .int x1)]) dX12_passes_1 (by decide) rfl (z_iconst (pc := 2) hK dX12_passes_2 zc_i0 (z_istore_n (pc := 3) hK (lv' := [(3, .int 0), (2, .int 0), (0, .ref (G.2.2.2 t0)), (1, .int x1)]) dX12_passes_3 (by decide) rfl (zsub (lv' := [(0, .ref (G.2.2.2 t0)), (1, .int x1), (2, .int 0), (3, .int 0)]) [2, 3, 1, 0] rfl (b_X12_passes_4 hK ht0 hE zfu x1 0 0 h hg)))))
theorem m_X12_passes {l : Launch} {G : zG} (hG : zD G) {h : zH} {t0 : Nat} {x1 : Int32} (ht0 : zT t0 = (11, 0)) {r : Int32 × zH} (hg : g_X12_passes h t0 x1 = some r) : zM l G yX12_passes cX12_passes 5 (some .int) 3 67 [.ref (G.2.2.2 t0), .int x1] h (some (.int r.1)) r.2 :=
  zM_of hG pn_X12 (Nat.le_of_ble_eq_true rfl) (fun K _ hK hE => b_X12_passes hK ht0 hE hg)
theorem dX12_castBy_0 : decode cX12_castBy 0 = .ok (.iconst 0, 1) := by decide +kernel
theorem dX12_castBy_1 : decode cX12_castBy 1 = .ok (.istore_n 2, 1) := by decide +kernel
theorem dX12_castBy_2 : decode cX12_castBy 2 = .ok (.iconst 0, 1) := by decide +kernel
theorem dX12_castBy_3 : decode cX12_castBy 3 = .ok (.istore_n 3, 1) := by decide +kernel
theorem dX12_castBy_4 : decode cX12_castBy 4 = .ok (.iload_n 3, 1) := by decide +kernel
theorem dX12_castBy_5 : decode cX12_castBy 5 = .ok (.bipush 7, 2) := by decide +kernel
theorem dX12_castBy_7 : decode cX12_castBy 7 = .ok (.if_icmp .ge 26, 3) := by decide +kernel
theorem dX12_castBy_10 : decode cX12_castBy 10 = .ok (.iload_n 2, 1) := by decide +kernel
theorem dX12_castBy_11 : decode cX12_castBy 11 = .ok (.aload_n 0, 1) := by decide +kernel
theorem dX12_castBy_12 : decode cX12_castBy 12 = .ok (.getfield 105, 3) := by decide +kernel
theorem dX12_castBy_15 : decode cX12_castBy 15 = .ok (.bipush 58, 2) := by decide +kernel
theorem dX12_castBy_17 : decode cX12_castBy 17 = .ok (.bipush 7, 2) := by decide +kernel
theorem dX12_castBy_19 : decode cX12_castBy 19 = .ok (.iload_n 1, 1) := by decide +kernel
theorem dX12_castBy_20 : decode cX12_castBy 20 = .ok (.imul, 1) := by decide +kernel
theorem dX12_castBy_21 : decode cX12_castBy 21 = .ok (.iadd, 1) := by decide +kernel
theorem dX12_castBy_22 : decode cX12_castBy 22 = .ok (.iload_n 3, 1) := by decide +kernel
theorem dX12_castBy_23 : decode cX12_castBy 23 = .ok (.iadd, 1) := by decide +kernel
theorem dX12_castBy_24 : decode cX12_castBy 24 = .ok (.iaload, 1) := by decide +kernel
theorem dX12_castBy_25 : decode cX12_castBy 25 = .ok (.iadd, 1) := by decide +kernel
theorem dX12_castBy_26 : decode cX12_castBy 26 = .ok (.istore_n 2, 1) := by decide +kernel
theorem dX12_castBy_27 : decode cX12_castBy 27 = .ok (.iinc 3 1, 3) := by decide +kernel
theorem dX12_castBy_30 : decode cX12_castBy 30 = .ok (.goto (-26), 3) := by decide +kernel
theorem dX12_castBy_33 : decode cX12_castBy 33 = .ok (.iload_n 2, 1) := by decide +kernel
theorem dX12_castBy_34 : decode cX12_castBy 34 = .ok (.ireturn, 1) := by decide +kernel
def g_X12_castBy_4 (h : zH) (t0 : Nat)  : Nat → Int32 → Int32 → Int32 → Option Int32
  | 0, _, _, _ => none
  | n + 1, x1, x2, x3 => if 7 ≤ x3 then (some x2) else (zgu (zin ((58 + (7 * x1)) + x3) 107) <| zlet (x2 + (h.1 (zR t0 44) (zx ((58 + (7 * x1)) + x3)))) fun v_3 => g_X12_castBy_4 h t0 n x1 v_3 (x3 + 1))
def g_X12_castBy (h : zH) (t0 : Nat) (x1 : Int32) : Option Int32 := g_X12_castBy_4 h t0 zfu x1 0 0
set_option maxRecDepth 100000 in
set_option maxHeartbeats 4000000 in
theorem b_X12_castBy_4 {K : zK} {G : zG} (hK : zC K G cX12_castBy RX12 4 0 0 (some .int)) {h : zH} {t0 : Nat} (ht0 : zT t0 = (11, 0)) {r : Int32} (hE : zE K G (some (.int r)) h) : ∀ (n : Nat) (x1 : Int32) (x2 : Int32) (x3 : Int32), g_X12_castBy_4 h t0 n x1 x2 x3 = some r → zW K G 4 4 [(0, .ref (G.2.2.2 t0)), (1, .int x1), (2, .int x2), (3, .int x3)] [] h := by
  intro n
  induction n with
  | zero => intro x1 x2 x3 hg; exact nomatch (show none = some r from hg)
  | succ n ih =>
    intro x1 x2 x3 hg
    rw [g_X12_castBy_4] at hg
    refine z_iload_n (pc := 4) hK 3 dX12_castBy_4 rfl (z_bipush (pc := 5) hK dX12_castBy_5 zc_b7 (z_icmp_ge (pc := 7) hK 33 dX12_castBy_7 (by decide) (fun c_1 => ?_) (fun c_1 => ?_)))
    · rw [if_pos c_1] at hg
      exact z_iload_n (pc := 33) hK 2 dX12_castBy_33 rfl (z_iretP (pc := 34) hK hE hg dX12_castBy_34)
    · rw [if_neg c_1] at hg
      obtain ⟨c_2, hg⟩ := zgu_some hg
      obtain ⟨v_3, ev_3, hg⟩ := zlet_some hg
      exact z_iload_n (pc := 10) hK 2 dX12_castBy_10 rfl (z_aload_n (pc := 11) hK 0 dX12_castBy_11 rfl (z_getR (pc := 12) hK f_X12_105_11 ht0 dX12_castBy_12 (z_bipush (pc := 15) hK dX12_castBy_15 zc_b58 (z_bipush (pc := 17) hK dX12_castBy_17 zc_b7 (z_iload_n (pc := 19) hK 1 dX12_castBy_19 rfl (z_imul (pc := 20) hK dX12_castBy_20 (z_iadd (pc := 21) hK dX12_castBy_21 (z_iload_n (pc := 22) hK 3 dX12_castBy_22 rfl (z_iadd (pc := 23) hK dX12_castBy_23 (z_iald (pc := 24) hK (zt_11_44 ht0) c_2 dX12_castBy_24 (z_iadd (pc := 25) hK dX12_castBy_25 (z_nameI ev_3 (z_istore_n (pc := 26) hK (lv' := [(2, .int v_3), (0, .ref (G.2.2.2 t0)), (1, .int x1), (3, .int x3)]) dX12_castBy_26 (by decide) rfl (z_iinc (pc := 27) hK 3 (lv' := [(3, .int (x3 + 1)), (2, .int v_3), (0, .ref (G.2.2.2 t0)), (1, .int x1)]) dX12_castBy_27 rfl (zc_n1 _) (by decide) rfl (z_goto (pc := 30) hK 4 dX12_castBy_30 (by decide) (zsub (lv' := [(0, .ref (G.2.2.2 t0)), (1, .int x1), (2, .int v_3), (3, .int (x3 + 1))]) [2, 3, 1, 0] rfl (ih x1 v_3 (x3 + 1) hg)))))))))))))))))
set_option maxRecDepth 100000 in
set_option maxHeartbeats 4000000 in
theorem b_X12_castBy {K : zK} {G : zG} (hK : zC K G cX12_castBy RX12 4 0 0 (some .int)) {h : zH} {t0 : Nat} {x1 : Int32} (ht0 : zT t0 = (11, 0)) {r : Int32} (hE : zE K G (some (.int r)) h) (hg : g_X12_castBy h t0 x1 = some r) : zW K G 4 0 [(0, .ref (G.2.2.2 t0)), (1, .int x1)] [] h := by
  rw [g_X12_castBy] at hg
  exact z_iconst (pc := 0) hK dX12_castBy_0 zc_i0 (z_istore_n (pc := 1) hK (lv' := [(2, .int 0), (0, .ref (G.2.2.2 t0)), (1, .int x1)]) dX12_castBy_1 (by decide) rfl (z_iconst (pc := 2) hK dX12_castBy_2 zc_i0 (z_istore_n (pc := 3) hK (lv' := [(3, .int 0), (2, .int 0), (0, .ref (G.2.2.2 t0)), (1, .int x1)]) dX12_castBy_3 (by decide) rfl (zsub (lv' := [(0, .ref (G.2.2.2 t0)), (1, .int x1), (2, .int 0), (3, .int 0)]) [2, 3, 1, 0] rfl (b_X12_castBy_4 hK ht0 hE zfu x1 0 0 hg)))))
theorem m_X12_castBy {l : Launch} {G : zG} (hG : zD G) {h : zH} {t0 : Nat} {x1 : Int32} (ht0 : zT t0 = (11, 0)) {r : Int32} (hg : g_X12_castBy h t0 x1 = some r) : zM l G yX12_castBy cX12_castBy 4 (some .int) 0 0 [.ref (G.2.2.2 t0), .int x1] h (some (.int r)) h :=
  zM_of hG pn_X12 (Nat.le_of_ble_eq_true rfl) (fun K _ hK hE => b_X12_castBy hK ht0 hE hg)
theorem dX12_person_0 : decode cX12_person 0 = .ok (.aload_n 0, 1) := by decide +kernel
theorem dX12_person_1 : decode cX12_person 1 = .ok (.iconst 0, 1) := by decide +kernel
theorem dX12_person_2 : decode cX12_person 2 = .ok (.putfield 126, 3) := by decide +kernel
theorem dX12_person_5 : decode cX12_person 5 = .ok (.aload_n 0, 1) := by decide +kernel
theorem dX12_person_6 : decode cX12_person 6 = .ok (.iload_n 1, 1) := by decide +kernel
theorem dX12_person_7 : decode cX12_person 7 = .ok (.invokevirtual 344, 3) := by decide +kernel
theorem dX12_person_10 : decode cX12_person 10 = .ok (.ifCond .eq 13, 3) := by decide +kernel
theorem dX12_person_13 : decode cX12_person 13 = .ok (.iload_n 2, 1) := by decide +kernel
theorem dX12_person_14 : decode cX12_person 14 = .ok (.iconst 0, 1) := by decide +kernel
theorem dX12_person_15 : decode cX12_person 15 = .ok (.bipush 7, 2) := by decide +kernel
theorem dX12_person_17 : decode cX12_person 17 = .ok (.invokestatic 259, 3) := by decide +kernel
theorem dX12_person_20 : decode cX12_person 20 = .ok (.ifCond .ne 6, 3) := by decide +kernel
theorem dX12_person_23 : decode cX12_person 23 = .ok (.bipush (-2), 2) := by decide +kernel
theorem dX12_person_25 : decode cX12_person 25 = .ok (.ireturn, 1) := by decide +kernel
theorem dX12_person_26 : decode cX12_person 26 = .ok (.iload_n 2, 1) := by decide +kernel
theorem dX12_person_27 : decode cX12_person 27 = .ok (.iconst 3, 1) := by decide +kernel
theorem dX12_person_28 : decode cX12_person 28 = .ok (.if_icmp .ge 37, 3) := by decide +kernel
theorem dX12_person_31 : decode cX12_person 31 = .ok (.iload_n 2, 1) := by decide +kernel
theorem dX12_person_32 : decode cX12_person 32 = .ok (.ifCond .ne 12, 3) := by decide +kernel
theorem dX12_person_35 : decode cX12_person 35 = .ok (.aload_n 0, 1) := by decide +kernel
theorem dX12_person_36 : decode cX12_person 36 = .ok (.getfield 20, 3) := by decide +kernel
theorem dX12_person_39 : decode cX12_person 39 = .ok (.iload_n 1, 1) := by decide +kernel
theorem dX12_person_40 : decode cX12_person 40 = .ok (.iaload, 1) := by decide +kernel
theorem dX12_person_41 : decode cX12_person 41 = .ok (.goto 23, 3) := by decide +kernel
theorem dX12_person_44 : decode cX12_person 44 = .ok (.iload_n 2, 1) := by decide +kernel
theorem dX12_person_45 : decode cX12_person 45 = .ok (.iconst 1, 1) := by decide +kernel
theorem dX12_person_46 : decode cX12_person 46 = .ok (.if_icmp .ne 12, 3) := by decide +kernel
theorem dX12_person_49 : decode cX12_person 49 = .ok (.aload_n 0, 1) := by decide +kernel
theorem dX12_person_50 : decode cX12_person 50 = .ok (.getfield 23, 3) := by decide +kernel
theorem dX12_person_53 : decode cX12_person 53 = .ok (.iload_n 1, 1) := by decide +kernel
theorem dX12_person_54 : decode cX12_person 54 = .ok (.iaload, 1) := by decide +kernel
theorem dX12_person_55 : decode cX12_person 55 = .ok (.goto 9, 3) := by decide +kernel
theorem dX12_person_58 : decode cX12_person 58 = .ok (.aload_n 0, 1) := by decide +kernel
theorem dX12_person_59 : decode cX12_person 59 = .ok (.getfield 26, 3) := by decide +kernel
theorem dX12_person_62 : decode cX12_person 62 = .ok (.iload_n 1, 1) := by decide +kernel
theorem dX12_person_63 : decode cX12_person 63 = .ok (.iaload, 1) := by decide +kernel
theorem dX12_person_64 : decode cX12_person 64 = .ok (.ireturn, 1) := by decide +kernel
theorem dX12_person_65 : decode cX12_person 65 = .ok (.iload_n 2, 1) := by decide +kernel
theorem dX12_person_66 : decode cX12_person 66 = .ok (.bipush 6, 2) := by decide +kernel
theorem dX12_person_68 : decode cX12_person 68 = .ok (.if_icmp .ge 38, 3) := by decide +kernel
theorem dX12_person_71 : decode cX12_person 71 = .ok (.iload_n 2, 1) := by decide +kernel
theorem dX12_person_72 : decode cX12_person 72 = .ok (.iconst 3, 1) := by decide +kernel
theorem dX12_person_73 : decode cX12_person 73 = .ok (.if_icmp .ne 14, 3) := by decide +kernel
theorem dX12_person_76 : decode cX12_person 76 = .ok (.aload_n 0, 1) := by decide +kernel
theorem dX12_person_77 : decode cX12_person 77 = .ok (.getfield 105, 3) := by decide +kernel
theorem dX12_person_80 : decode cX12_person 80 = .ok (.iconst 2, 1) := by decide +kernel
theorem dX12_person_81 : decode cX12_person 81 = .ok (.iload_n 1, 1) := by decide +kernel
theorem dX12_person_82 : decode cX12_person 82 = .ok (.iadd, 1) := by decide +kernel
theorem dX12_person_83 : decode cX12_person 83 = .ok (.iaload, 1) := by decide +kernel
theorem dX12_person_84 : decode cX12_person 84 = .ok (.goto 21, 3) := by decide +kernel
theorem dX12_person_87 : decode cX12_person 87 = .ok (.iload_n 2, 1) := by decide +kernel
theorem dX12_person_88 : decode cX12_person 88 = .ok (.iconst 4, 1) := by decide +kernel
theorem dX12_person_89 : decode cX12_person 89 = .ok (.if_icmp .ne 11, 3) := by decide +kernel
theorem dX12_person_92 : decode cX12_person 92 = .ok (.aload_n 0, 1) := by decide +kernel
theorem dX12_person_93 : decode cX12_person 93 = .ok (.iload_n 1, 1) := by decide +kernel
theorem dX12_person_94 : decode cX12_person 94 = .ok (.invokevirtual 353, 3) := by decide +kernel
theorem dX12_person_97 : decode cX12_person 97 = .ok (.goto 8, 3) := by decide +kernel
theorem dX12_person_100 : decode cX12_person 100 = .ok (.aload_n 0, 1) := by decide +kernel
theorem dX12_person_101 : decode cX12_person 101 = .ok (.iload_n 1, 1) := by decide +kernel
theorem dX12_person_102 : decode cX12_person 102 = .ok (.invokevirtual 406, 3) := by decide +kernel
theorem dX12_person_105 : decode cX12_person 105 = .ok (.ireturn, 1) := by decide +kernel
theorem dX12_person_106 : decode cX12_person 106 = .ok (.iload_n 2, 1) := by decide +kernel
theorem dX12_person_107 : decode cX12_person 107 = .ok (.bipush 6, 2) := by decide +kernel
theorem dX12_person_109 : decode cX12_person 109 = .ok (.if_icmp .ne 12, 3) := by decide +kernel
theorem dX12_person_112 : decode cX12_person 112 = .ok (.aload_n 0, 1) := by decide +kernel
theorem dX12_person_113 : decode cX12_person 113 = .ok (.getfield 29, 3) := by decide +kernel
theorem dX12_person_116 : decode cX12_person 116 = .ok (.iload_n 1, 1) := by decide +kernel
theorem dX12_person_117 : decode cX12_person 117 = .ok (.iaload, 1) := by decide +kernel
theorem dX12_person_118 : decode cX12_person 118 = .ok (.goto 16, 3) := by decide +kernel
theorem dX12_person_121 : decode cX12_person 121 = .ok (.aload_n 0, 1) := by decide +kernel
theorem dX12_person_122 : decode cX12_person 122 = .ok (.iload_n 1, 1) := by decide +kernel
theorem dX12_person_123 : decode cX12_person 123 = .ok (.invokevirtual 350, 3) := by decide +kernel
theorem dX12_person_126 : decode cX12_person 126 = .ok (.ifCond .eq 7, 3) := by decide +kernel
theorem dX12_person_129 : decode cX12_person 129 = .ok (.iconst 1, 1) := by decide +kernel
theorem dX12_person_130 : decode cX12_person 130 = .ok (.goto 4, 3) := by decide +kernel
theorem dX12_person_133 : decode cX12_person 133 = .ok (.iconst 0, 1) := by decide +kernel
theorem dX12_person_134 : decode cX12_person 134 = .ok (.ireturn, 1) := by decide +kernel
def g_X12_person (h : zH) (t0 : Nat) (x1 : Int32) (x2 : Int32) : Option (Int32 × zH) := zlet (zpi h t0 0 0) fun h_1 => (g_X12_isPerson h_1 t0 x1).bind fun v_2 => if (zb v_2) = 0 then (some ((-2), h_1)) else ((g_X12_within h_1 x2 0 7).bind fun v_4 => if (zb v_4) = 0 then (some ((-2), h_1)) else (if 3 ≤ x2 then (if 6 ≤ x2 then (if x2 = 6 then (zgu (zin x1 14) <| some (h_1.1 (zR t0 15) (zx x1), h_1)) else ((g_X12_isAlive h_1 t0 x1).bind fun v_9 => if (zb v_9) = 0 then (some (0, h_1)) else (some (1, h_1)))) else (if x2 = 3 then (zgu (zin (2 + x1) 107) <| some (h_1.1 (zR t0 44) (zx (2 + x1)), h_1)) else (if x2 = 4 then ((g_X12_countsAgainst h_1 t0 x1).bind fun v_15 => some (v_15, h_1)) else ((g_X12_castBy h_1 t0 x1).bind fun v_14 => some (v_14, h_1))))) else (if x2 = 0 then (zgu (zin x1 14) <| some (h_1.1 (zR t0 12) (zx x1), h_1)) else (if x2 = 1 then (zgu (zin x1 14) <| some (h_1.1 (zR t0 13) (zx x1), h_1)) else (zgu (zin x1 14) <| some (h_1.1 (zR t0 14) (zx x1), h_1))))))
set_option maxRecDepth 100000 in
set_option maxHeartbeats 4000000 in
theorem b_X12_person {K : zK} {G : zG} (hK : zC K G cX12_person RX12 3 2 44 (some .int)) {h : zH} {t0 : Nat} {x1 : Int32} {x2 : Int32} (ht0 : zT t0 = (11, 0)) {r : Int32 × zH} (hE : zE K G (some (.int r.1)) r.2) (hg : g_X12_person h t0 x1 x2 = some r) : zW K G 3 0 [(0, .ref (G.2.2.2 t0)), (1, .int x1), (2, .int x2)] [] h := by
  rw [g_X12_person] at hg
  obtain ⟨h_1, eh_1, hg⟩ := zlet_some hg
  obtain ⟨v_2, qv_2, hg⟩ := zbind_some hg
  refine z_aload_n (pc := 0) hK 0 dX12_person_0 rfl (z_iconst (pc := 1) hK dX12_person_1 zc_i0 (z_putI (pc := 2) hK f_X12_126_11 fp_11_0 ht0 dX12_person_2 (z_nameH eh_1 (z_aload_n (pc := 5) hK 0 dX12_person_5 rfl (z_iload_n (pc := 6) hK 1 dX12_person_6 rfl (z_callVi (pc := 7) hK [.int x1] (m_X12_isPerson (zC_D hK) ht0 qv_2) sv_X12_isPerson q_1620 ht0 rfl [] rfl (Nat.le_of_ble_eq_true rfl) ⟨by decide, by decide⟩ dX12_person_7 (z_if_eq (pc := 10) hK 23 dX12_person_10 (by decide) (fun c_3 => ?_) (fun c_3 => ?_))))))))
  · rw [if_pos c_3] at hg
    exact z_bipush (pc := 23) hK dX12_person_23 zc_bm2 (z_iretE (pc := 25) hK hE hg dX12_person_25)
  · rw [if_neg c_3] at hg
    obtain ⟨v_4, qv_4, hg⟩ := zbind_some hg
    refine z_iload_n (pc := 13) hK 2 dX12_person_13 rfl (z_iconst (pc := 14) hK dX12_person_14 zc_i0 (z_bipush (pc := 15) hK dX12_person_15 zc_b7 (z_callSi (pc := 17) hK [.int x2, .int 0, .int 7] (m_X12_within (zC_D hK) qv_4) ss_X12_within q_1538 rfl [] rfl (Nat.le_of_ble_eq_true rfl) ⟨by decide, by decide⟩ dX12_person_17 (z_if_ne (pc := 20) hK 26 dX12_person_20 (by decide) (fun c_5 => ?_) (fun c_5 => ?_)))))
    · rw [if_neg c_5] at hg
      refine z_iload_n (pc := 26) hK 2 dX12_person_26 rfl (z_iconst (pc := 27) hK dX12_person_27 zc_i3 (z_icmp_ge (pc := 28) hK 65 dX12_person_28 (by decide) (fun c_6 => ?_) (fun c_6 => ?_)))
      · rw [if_pos c_6] at hg
        refine z_iload_n (pc := 65) hK 2 dX12_person_65 rfl (z_bipush (pc := 66) hK dX12_person_66 zc_b6 (z_icmp_ge (pc := 68) hK 106 dX12_person_68 (by decide) (fun c_7 => ?_) (fun c_7 => ?_)))
        · rw [if_pos c_7] at hg
          refine z_iload_n (pc := 106) hK 2 dX12_person_106 rfl (z_bipush (pc := 107) hK dX12_person_107 zc_b6 (z_icmp_ne (pc := 109) hK 121 dX12_person_109 (by decide) (fun c_8 => ?_) (fun c_8 => ?_)))
          · rw [if_neg c_8] at hg
            obtain ⟨v_9, qv_9, hg⟩ := zbind_some hg
            refine z_aload_n (pc := 121) hK 0 dX12_person_121 rfl (z_iload_n (pc := 122) hK 1 dX12_person_122 rfl (z_callVi (pc := 123) hK [.int x1] (m_X12_isAlive (zC_D hK) ht0 qv_9) sv_X12_isAlive q_1628 ht0 rfl [] rfl (Nat.le_of_ble_eq_true rfl) ⟨by decide, by decide⟩ dX12_person_123 (z_if_eq (pc := 126) hK 133 dX12_person_126 (by decide) (fun c_10 => ?_) (fun c_10 => ?_))))
            · rw [if_pos c_10] at hg
              exact z_iconst (pc := 133) hK dX12_person_133 zc_i0 (z_iretE (pc := 134) hK hE hg dX12_person_134)
            · rw [if_neg c_10] at hg
              exact z_iconst (pc := 129) hK dX12_person_129 zc_i1 (z_goto (pc := 130) hK 134 dX12_person_130 (by decide) (z_iretE (pc := 134) hK hE hg dX12_person_134))
          · rw [if_pos c_8] at hg
            obtain ⟨c_11, hg⟩ := zgu_some hg
            exact z_aload_n (pc := 112) hK 0 dX12_person_112 rfl (z_getR (pc := 113) hK f_X12_29_11 ht0 dX12_person_113 (z_iload_n (pc := 116) hK 1 dX12_person_116 rfl (z_iald (pc := 117) hK (zt_11_15 ht0) c_11 dX12_person_117 (z_goto (pc := 118) hK 134 dX12_person_118 (by decide) (z_iretE (pc := 134) hK hE hg dX12_person_134)))))
        · rw [if_neg c_7] at hg
          refine z_iload_n (pc := 71) hK 2 dX12_person_71 rfl (z_iconst (pc := 72) hK dX12_person_72 zc_i3 (z_icmp_ne (pc := 73) hK 87 dX12_person_73 (by decide) (fun c_12 => ?_) (fun c_12 => ?_)))
          · rw [if_neg c_12] at hg
            refine z_iload_n (pc := 87) hK 2 dX12_person_87 rfl (z_iconst (pc := 88) hK dX12_person_88 zc_i4 (z_icmp_ne (pc := 89) hK 100 dX12_person_89 (by decide) (fun c_13 => ?_) (fun c_13 => ?_)))
            · rw [if_neg c_13] at hg
              obtain ⟨v_14, qv_14, hg⟩ := zbind_some hg
              exact z_aload_n (pc := 100) hK 0 dX12_person_100 rfl (z_iload_n (pc := 101) hK 1 dX12_person_101 rfl (z_callVi (pc := 102) hK [.int x1] (m_X12_castBy (zC_D hK) ht0 qv_14) sv_X12_castBy q_1632 ht0 rfl [] rfl (Nat.le_of_ble_eq_true rfl) ⟨by decide, by decide⟩ dX12_person_102 (z_iretE (pc := 105) hK hE hg dX12_person_105)))
            · rw [if_pos c_13] at hg
              obtain ⟨v_15, qv_15, hg⟩ := zbind_some hg
              exact z_aload_n (pc := 92) hK 0 dX12_person_92 rfl (z_iload_n (pc := 93) hK 1 dX12_person_93 rfl (z_callVi (pc := 94) hK [.int x1] (m_X12_countsAgainst (zC_D hK) ht0 qv_15) sv_X12_countsAgainst q_1624 ht0 rfl [] rfl (Nat.le_of_ble_eq_true rfl) ⟨by decide, by decide⟩ dX12_person_94 (z_goto (pc := 97) hK 105 dX12_person_97 (by decide) (z_iretE (pc := 105) hK hE hg dX12_person_105))))
          · rw [if_pos c_12] at hg
            obtain ⟨c_16, hg⟩ := zgu_some hg
            exact z_aload_n (pc := 76) hK 0 dX12_person_76 rfl (z_getR (pc := 77) hK f_X12_105_11 ht0 dX12_person_77 (z_iconst (pc := 80) hK dX12_person_80 zc_i2 (z_iload_n (pc := 81) hK 1 dX12_person_81 rfl (z_iadd (pc := 82) hK dX12_person_82 (z_iald (pc := 83) hK (zt_11_44 ht0) c_16 dX12_person_83 (z_goto (pc := 84) hK 105 dX12_person_84 (by decide) (z_iretE (pc := 105) hK hE hg dX12_person_105)))))))
      · rw [if_neg c_6] at hg
        refine z_iload_n (pc := 31) hK 2 dX12_person_31 rfl (z_if_ne (pc := 32) hK 44 dX12_person_32 (by decide) (fun c_17 => ?_) (fun c_17 => ?_))
        · rw [if_neg c_17] at hg
          refine z_iload_n (pc := 44) hK 2 dX12_person_44 rfl (z_iconst (pc := 45) hK dX12_person_45 zc_i1 (z_icmp_ne (pc := 46) hK 58 dX12_person_46 (by decide) (fun c_18 => ?_) (fun c_18 => ?_)))
          · rw [if_neg c_18] at hg
            obtain ⟨c_19, hg⟩ := zgu_some hg
            exact z_aload_n (pc := 58) hK 0 dX12_person_58 rfl (z_getR (pc := 59) hK f_X12_26_11 ht0 dX12_person_59 (z_iload_n (pc := 62) hK 1 dX12_person_62 rfl (z_iald (pc := 63) hK (zt_11_14 ht0) c_19 dX12_person_63 (z_iretE (pc := 64) hK hE hg dX12_person_64))))
          · rw [if_pos c_18] at hg
            obtain ⟨c_20, hg⟩ := zgu_some hg
            exact z_aload_n (pc := 49) hK 0 dX12_person_49 rfl (z_getR (pc := 50) hK f_X12_23_11 ht0 dX12_person_50 (z_iload_n (pc := 53) hK 1 dX12_person_53 rfl (z_iald (pc := 54) hK (zt_11_13 ht0) c_20 dX12_person_54 (z_goto (pc := 55) hK 64 dX12_person_55 (by decide) (z_iretE (pc := 64) hK hE hg dX12_person_64)))))
        · rw [if_pos c_17] at hg
          obtain ⟨c_21, hg⟩ := zgu_some hg
          exact z_aload_n (pc := 35) hK 0 dX12_person_35 rfl (z_getR (pc := 36) hK f_X12_20_11 ht0 dX12_person_36 (z_iload_n (pc := 39) hK 1 dX12_person_39 rfl (z_iald (pc := 40) hK (zt_11_12 ht0) c_21 dX12_person_40 (z_goto (pc := 41) hK 64 dX12_person_41 (by decide) (z_iretE (pc := 64) hK hE hg dX12_person_64)))))
    · rw [if_pos c_5] at hg
      exact z_bipush (pc := 23) hK dX12_person_23 zc_bm2 (z_iretE (pc := 25) hK hE hg dX12_person_25)
theorem m_X12_person {l : Launch} {G : zG} (hG : zD G) {h : zH} {t0 : Nat} {x1 : Int32} {x2 : Int32} (ht0 : zT t0 = (11, 0)) {r : Int32 × zH} (hg : g_X12_person h t0 x1 x2 = some r) : zM l G yX12_person cX12_person 3 (some .int) 2 44 [.ref (G.2.2.2 t0), .int x1, .int x2] h (some (.int r.1)) r.2 :=
  zM_of hG pn_X12 (Nat.le_of_ble_eq_true rfl) (fun K _ hK hE => b_X12_person hK ht0 hE hg)
theorem dX12_grudge_0 : decode cX12_grudge 0 = .ok (.aload_n 0, 1) := by decide +kernel
theorem dX12_grudge_1 : decode cX12_grudge 1 = .ok (.iconst 0, 1) := by decide +kernel
theorem dX12_grudge_2 : decode cX12_grudge 2 = .ok (.putfield 126, 3) := by decide +kernel
theorem dX12_grudge_5 : decode cX12_grudge 5 = .ok (.aload_n 0, 1) := by decide +kernel
theorem dX12_grudge_6 : decode cX12_grudge 6 = .ok (.iload_n 1, 1) := by decide +kernel
theorem dX12_grudge_7 : decode cX12_grudge 7 = .ok (.iload_n 2, 1) := by decide +kernel
theorem dX12_grudge_8 : decode cX12_grudge 8 = .ok (.invokevirtual 347, 3) := by decide +kernel
theorem dX12_grudge_11 : decode cX12_grudge 11 = .ok (.ifCond .eq 20, 3) := by decide +kernel
theorem dX12_grudge_14 : decode cX12_grudge 14 = .ok (.aload_n 0, 1) := by decide +kernel
theorem dX12_grudge_15 : decode cX12_grudge 15 = .ok (.getfield 105, 3) := by decide +kernel
theorem dX12_grudge_18 : decode cX12_grudge 18 = .ok (.bipush 9, 2) := by decide +kernel
theorem dX12_grudge_20 : decode cX12_grudge 20 = .ok (.bipush 7, 2) := by decide +kernel
theorem dX12_grudge_22 : decode cX12_grudge 22 = .ok (.iload_n 1, 1) := by decide +kernel
theorem dX12_grudge_23 : decode cX12_grudge 23 = .ok (.imul, 1) := by decide +kernel
theorem dX12_grudge_24 : decode cX12_grudge 24 = .ok (.iadd, 1) := by decide +kernel
theorem dX12_grudge_25 : decode cX12_grudge 25 = .ok (.iload_n 2, 1) := by decide +kernel
theorem dX12_grudge_26 : decode cX12_grudge 26 = .ok (.iadd, 1) := by decide +kernel
theorem dX12_grudge_27 : decode cX12_grudge 27 = .ok (.iaload, 1) := by decide +kernel
theorem dX12_grudge_28 : decode cX12_grudge 28 = .ok (.goto 4, 3) := by decide +kernel
theorem dX12_grudge_31 : decode cX12_grudge 31 = .ok (.iconst (-1), 1) := by decide +kernel
theorem dX12_grudge_32 : decode cX12_grudge 32 = .ok (.ireturn, 1) := by decide +kernel
def g_X12_grudge (h : zH) (t0 : Nat) (x1 : Int32) (x2 : Int32) : Option (Int32 × zH) := zlet (zpi h t0 0 0) fun h_1 => (g_X12_areTwo h_1 t0 x1 x2).bind fun v_2 => if (zb v_2) = 0 then (some ((-1), h_1)) else (zgu (zin ((9 + (7 * x1)) + x2) 107) <| some (h_1.1 (zR t0 44) (zx ((9 + (7 * x1)) + x2)), h_1))
set_option maxRecDepth 100000 in
set_option maxHeartbeats 4000000 in
theorem b_X12_grudge {K : zK} {G : zG} (hK : zC K G cX12_grudge RX12 3 2 43 (some .int)) {h : zH} {t0 : Nat} {x1 : Int32} {x2 : Int32} (ht0 : zT t0 = (11, 0)) {r : Int32 × zH} (hE : zE K G (some (.int r.1)) r.2) (hg : g_X12_grudge h t0 x1 x2 = some r) : zW K G 3 0 [(0, .ref (G.2.2.2 t0)), (1, .int x1), (2, .int x2)] [] h := by
  rw [g_X12_grudge] at hg
  obtain ⟨h_1, eh_1, hg⟩ := zlet_some hg
  obtain ⟨v_2, qv_2, hg⟩ := zbind_some hg
  refine z_aload_n (pc := 0) hK 0 dX12_grudge_0 rfl (z_iconst (pc := 1) hK dX12_grudge_1 zc_i0 (z_putI (pc := 2) hK f_X12_126_11 fp_11_0 ht0 dX12_grudge_2 (z_nameH eh_1 (z_aload_n (pc := 5) hK 0 dX12_grudge_5 rfl (z_iload_n (pc := 6) hK 1 dX12_grudge_6 rfl (z_iload_n (pc := 7) hK 2 dX12_grudge_7 rfl (z_callVi (pc := 8) hK [.int x1, .int x2] (m_X12_areTwo (zC_D hK) ht0 qv_2) sv_X12_areTwo q_1640 ht0 rfl [] rfl (Nat.le_of_ble_eq_true rfl) ⟨by decide, by decide⟩ dX12_grudge_8 (z_if_eq (pc := 11) hK 31 dX12_grudge_11 (by decide) (fun c_3 => ?_) (fun c_3 => ?_)))))))))
  · rw [if_pos c_3] at hg
    exact z_iconst (pc := 31) hK dX12_grudge_31 zc_im1 (z_iretE (pc := 32) hK hE hg dX12_grudge_32)
  · rw [if_neg c_3] at hg
    obtain ⟨c_4, hg⟩ := zgu_some hg
    exact z_aload_n (pc := 14) hK 0 dX12_grudge_14 rfl (z_getR (pc := 15) hK f_X12_105_11 ht0 dX12_grudge_15 (z_bipush (pc := 18) hK dX12_grudge_18 zc_b9 (z_bipush (pc := 20) hK dX12_grudge_20 zc_b7 (z_iload_n (pc := 22) hK 1 dX12_grudge_22 rfl (z_imul (pc := 23) hK dX12_grudge_23 (z_iadd (pc := 24) hK dX12_grudge_24 (z_iload_n (pc := 25) hK 2 dX12_grudge_25 rfl (z_iadd (pc := 26) hK dX12_grudge_26 (z_iald (pc := 27) hK (zt_11_44 ht0) c_4 dX12_grudge_27 (z_goto (pc := 28) hK 32 dX12_grudge_28 (by decide) (z_iretE (pc := 32) hK hE hg dX12_grudge_32)))))))))))
theorem m_X12_grudge {l : Launch} {G : zG} (hG : zD G) {h : zH} {t0 : Nat} {x1 : Int32} {x2 : Int32} (ht0 : zT t0 = (11, 0)) {r : Int32 × zH} (hg : g_X12_grudge h t0 x1 x2 = some r) : zM l G yX12_grudge cX12_grudge 3 (some .int) 2 43 [.ref (G.2.2.2 t0), .int x1, .int x2] h (some (.int r.1)) r.2 :=
  zM_of hG pn_X12 (Nat.le_of_ble_eq_true rfl) (fun K _ hK hE => b_X12_grudge hK ht0 hE hg)
theorem dX12_against_0 : decode cX12_against 0 = .ok (.aload_n 0, 1) := by decide +kernel
theorem dX12_against_1 : decode cX12_against 1 = .ok (.iconst 0, 1) := by decide +kernel
theorem dX12_against_2 : decode cX12_against 2 = .ok (.putfield 126, 3) := by decide +kernel
theorem dX12_against_5 : decode cX12_against 5 = .ok (.aload_n 0, 1) := by decide +kernel
theorem dX12_against_6 : decode cX12_against 6 = .ok (.iload_n 1, 1) := by decide +kernel
theorem dX12_against_7 : decode cX12_against 7 = .ok (.iload_n 2, 1) := by decide +kernel
theorem dX12_against_8 : decode cX12_against 8 = .ok (.invokevirtual 347, 3) := by decide +kernel
theorem dX12_against_11 : decode cX12_against 11 = .ok (.ifCond .eq 20, 3) := by decide +kernel
theorem dX12_against_14 : decode cX12_against 14 = .ok (.aload_n 0, 1) := by decide +kernel
theorem dX12_against_15 : decode cX12_against 15 = .ok (.getfield 105, 3) := by decide +kernel
theorem dX12_against_18 : decode cX12_against 18 = .ok (.bipush 58, 2) := by decide +kernel
theorem dX12_against_20 : decode cX12_against 20 = .ok (.bipush 7, 2) := by decide +kernel
theorem dX12_against_22 : decode cX12_against 22 = .ok (.iload_n 1, 1) := by decide +kernel
theorem dX12_against_23 : decode cX12_against 23 = .ok (.imul, 1) := by decide +kernel
theorem dX12_against_24 : decode cX12_against 24 = .ok (.iadd, 1) := by decide +kernel
theorem dX12_against_25 : decode cX12_against 25 = .ok (.iload_n 2, 1) := by decide +kernel
theorem dX12_against_26 : decode cX12_against 26 = .ok (.iadd, 1) := by decide +kernel
theorem dX12_against_27 : decode cX12_against 27 = .ok (.iaload, 1) := by decide +kernel
theorem dX12_against_28 : decode cX12_against 28 = .ok (.goto 4, 3) := by decide +kernel
theorem dX12_against_31 : decode cX12_against 31 = .ok (.iconst (-1), 1) := by decide +kernel
theorem dX12_against_32 : decode cX12_against 32 = .ok (.ireturn, 1) := by decide +kernel
def g_X12_against (h : zH) (t0 : Nat) (x1 : Int32) (x2 : Int32) : Option (Int32 × zH) := zlet (zpi h t0 0 0) fun h_1 => (g_X12_areTwo h_1 t0 x1 x2).bind fun v_2 => if (zb v_2) = 0 then (some ((-1), h_1)) else (zgu (zin ((58 + (7 * x1)) + x2) 107) <| some (h_1.1 (zR t0 44) (zx ((58 + (7 * x1)) + x2)), h_1))
set_option maxRecDepth 100000 in
set_option maxHeartbeats 4000000 in
theorem b_X12_against {K : zK} {G : zG} (hK : zC K G cX12_against RX12 3 2 43 (some .int)) {h : zH} {t0 : Nat} {x1 : Int32} {x2 : Int32} (ht0 : zT t0 = (11, 0)) {r : Int32 × zH} (hE : zE K G (some (.int r.1)) r.2) (hg : g_X12_against h t0 x1 x2 = some r) : zW K G 3 0 [(0, .ref (G.2.2.2 t0)), (1, .int x1), (2, .int x2)] [] h := by
  rw [g_X12_against] at hg
  obtain ⟨h_1, eh_1, hg⟩ := zlet_some hg
  obtain ⟨v_2, qv_2, hg⟩ := zbind_some hg
  refine z_aload_n (pc := 0) hK 0 dX12_against_0 rfl (z_iconst (pc := 1) hK dX12_against_1 zc_i0 (z_putI (pc := 2) hK f_X12_126_11 fp_11_0 ht0 dX12_against_2 (z_nameH eh_1 (z_aload_n (pc := 5) hK 0 dX12_against_5 rfl (z_iload_n (pc := 6) hK 1 dX12_against_6 rfl (z_iload_n (pc := 7) hK 2 dX12_against_7 rfl (z_callVi (pc := 8) hK [.int x1, .int x2] (m_X12_areTwo (zC_D hK) ht0 qv_2) sv_X12_areTwo q_1640 ht0 rfl [] rfl (Nat.le_of_ble_eq_true rfl) ⟨by decide, by decide⟩ dX12_against_8 (z_if_eq (pc := 11) hK 31 dX12_against_11 (by decide) (fun c_3 => ?_) (fun c_3 => ?_)))))))))
  · rw [if_pos c_3] at hg
    exact z_iconst (pc := 31) hK dX12_against_31 zc_im1 (z_iretE (pc := 32) hK hE hg dX12_against_32)
  · rw [if_neg c_3] at hg
    obtain ⟨c_4, hg⟩ := zgu_some hg
    exact z_aload_n (pc := 14) hK 0 dX12_against_14 rfl (z_getR (pc := 15) hK f_X12_105_11 ht0 dX12_against_15 (z_bipush (pc := 18) hK dX12_against_18 zc_b58 (z_bipush (pc := 20) hK dX12_against_20 zc_b7 (z_iload_n (pc := 22) hK 1 dX12_against_22 rfl (z_imul (pc := 23) hK dX12_against_23 (z_iadd (pc := 24) hK dX12_against_24 (z_iload_n (pc := 25) hK 2 dX12_against_25 rfl (z_iadd (pc := 26) hK dX12_against_26 (z_iald (pc := 27) hK (zt_11_44 ht0) c_4 dX12_against_27 (z_goto (pc := 28) hK 32 dX12_against_28 (by decide) (z_iretE (pc := 32) hK hE hg dX12_against_32)))))))))))
theorem m_X12_against {l : Launch} {G : zG} (hG : zD G) {h : zH} {t0 : Nat} {x1 : Int32} {x2 : Int32} (ht0 : zT t0 = (11, 0)) {r : Int32 × zH} (hg : g_X12_against h t0 x1 x2 = some r) : zM l G yX12_against cX12_against 3 (some .int) 2 43 [.ref (G.2.2.2 t0), .int x1, .int x2] h (some (.int r.1)) r.2 :=
  zM_of hG pn_X12 (Nat.le_of_ble_eq_true rfl) (fun K _ hK hE => b_X12_against hK ht0 hE hg)
theorem dX12_governs_0 : decode cX12_governs 0 = .ok (.aload_n 0, 1) := by decide +kernel
theorem dX12_governs_1 : decode cX12_governs 1 = .ok (.iconst 0, 1) := by decide +kernel
theorem dX12_governs_2 : decode cX12_governs 2 = .ok (.putfield 126, 3) := by decide +kernel
theorem dX12_governs_5 : decode cX12_governs 5 = .ok (.aload_n 0, 1) := by decide +kernel
theorem dX12_governs_6 : decode cX12_governs 6 = .ok (.invokevirtual 379, 3) := by decide +kernel
theorem dX12_governs_9 : decode cX12_governs 9 = .ok (.ireturn, 1) := by decide +kernel
def g_X12_governs (h : zH) (t0 : Nat) : Option (Int32 × zH) := zlet (zpi h t0 0 0) fun h_1 => (g_X12_governor h_1 t0).bind fun v_2 => some (v_2, h_1)
set_option maxRecDepth 100000 in
set_option maxHeartbeats 4000000 in
theorem b_X12_governs {K : zK} {G : zG} (hK : zC K G cX12_governs RX12 1 4 90 (some .int)) {h : zH} {t0 : Nat} (ht0 : zT t0 = (11, 0)) {r : Int32 × zH} (hE : zE K G (some (.int r.1)) r.2) (hg : g_X12_governs h t0 = some r) : zW K G 1 0 [(0, .ref (G.2.2.2 t0))] [] h := by
  rw [g_X12_governs] at hg
  obtain ⟨h_1, eh_1, hg⟩ := zlet_some hg
  obtain ⟨v_2, qv_2, hg⟩ := zbind_some hg
  exact z_aload_n (pc := 0) hK 0 dX12_governs_0 rfl (z_iconst (pc := 1) hK dX12_governs_1 zc_i0 (z_putI (pc := 2) hK f_X12_126_11 fp_11_0 ht0 dX12_governs_2 (z_nameH eh_1 (z_aload_n (pc := 5) hK 0 dX12_governs_5 rfl (z_callVi (pc := 6) hK [] (m_X12_governor (zC_D hK) ht0 qv_2) sv_X12_governor q_1652 ht0 rfl [] rfl (Nat.le_of_ble_eq_true rfl) ⟨by decide, by decide⟩ dX12_governs_6 (z_iretE (pc := 9) hK hE hg dX12_governs_9))))))
theorem m_X12_governs {l : Launch} {G : zG} (hG : zD G) {h : zH} {t0 : Nat} (ht0 : zT t0 = (11, 0)) {r : Int32 × zH} (hg : g_X12_governs h t0 = some r) : zM l G yX12_governs cX12_governs 1 (some .int) 4 90 [.ref (G.2.2.2 t0)] h (some (.int r.1)) r.2 :=
  zM_of hG pn_X12 (Nat.le_of_ble_eq_true rfl) (fun K _ hK hE => b_X12_governs hK ht0 hE hg)
theorem dX12_keeps_0 : decode cX12_keeps 0 = .ok (.aload_n 0, 1) := by decide +kernel
theorem dX12_keeps_1 : decode cX12_keeps 1 = .ok (.getfield 334, 3) := by decide +kernel
theorem dX12_keeps_4 : decode cX12_keeps 4 = .ok (.bipush 16, 2) := by decide +kernel
theorem dX12_keeps_6 : decode cX12_keeps 6 = .ok (.if_icmp .ne 43, 3) := by decide +kernel
theorem dX12_keeps_9 : decode cX12_keeps 9 = .ok (.iconst 0, 1) := by decide +kernel
theorem dX12_keeps_10 : decode cX12_keeps 10 = .ok (.istore_n 1, 1) := by decide +kernel
theorem dX12_keeps_11 : decode cX12_keeps 11 = .ok (.iload_n 1, 1) := by decide +kernel
theorem dX12_keeps_12 : decode cX12_keeps 12 = .ok (.sipush 1605, 3) := by decide +kernel
theorem dX12_keeps_15 : decode cX12_keeps 15 = .ok (.if_icmp .ge 24, 3) := by decide +kernel
theorem dX12_keeps_18 : decode cX12_keeps 18 = .ok (.aload_n 0, 1) := by decide +kernel
theorem dX12_keeps_19 : decode cX12_keeps 19 = .ok (.getfield 114, 3) := by decide +kernel
theorem dX12_keeps_22 : decode cX12_keeps 22 = .ok (.iload_n 1, 1) := by decide +kernel
theorem dX12_keeps_23 : decode cX12_keeps 23 = .ok (.aload_n 0, 1) := by decide +kernel
theorem dX12_keeps_24 : decode cX12_keeps 24 = .ok (.getfield 114, 3) := by decide +kernel
theorem dX12_keeps_27 : decode cX12_keeps 27 = .ok (.iload_n 1, 1) := by decide +kernel
theorem dX12_keeps_28 : decode cX12_keeps 28 = .ok (.bipush 107, 2) := by decide +kernel
theorem dX12_keeps_30 : decode cX12_keeps 30 = .ok (.iadd, 1) := by decide +kernel
theorem dX12_keeps_31 : decode cX12_keeps 31 = .ok (.iaload, 1) := by decide +kernel
theorem dX12_keeps_32 : decode cX12_keeps 32 = .ok (.iastore, 1) := by decide +kernel
theorem dX12_keeps_33 : decode cX12_keeps 33 = .ok (.iinc 1 1, 3) := by decide +kernel
theorem dX12_keeps_36 : decode cX12_keeps 36 = .ok (.goto (-25), 3) := by decide +kernel
theorem dX12_keeps_39 : decode cX12_keeps 39 = .ok (.aload_n 0, 1) := by decide +kernel
theorem dX12_keeps_40 : decode cX12_keeps 40 = .ok (.dup, 1) := by decide +kernel
theorem dX12_keeps_41 : decode cX12_keeps 41 = .ok (.getfield 334, 3) := by decide +kernel
theorem dX12_keeps_44 : decode cX12_keeps 44 = .ok (.iconst 1, 1) := by decide +kernel
theorem dX12_keeps_45 : decode cX12_keeps 45 = .ok (.isub, 1) := by decide +kernel
theorem dX12_keeps_46 : decode cX12_keeps 46 = .ok (.putfield 334, 3) := by decide +kernel
theorem dX12_keeps_49 : decode cX12_keeps 49 = .ok (.aload_n 0, 1) := by decide +kernel
theorem dX12_keeps_50 : decode cX12_keeps 50 = .ok (.getfield 105, 3) := by decide +kernel
theorem dX12_keeps_53 : decode cX12_keeps 53 = .ok (.iconst 0, 1) := by decide +kernel
theorem dX12_keeps_54 : decode cX12_keeps 54 = .ok (.aload_n 0, 1) := by decide +kernel
theorem dX12_keeps_55 : decode cX12_keeps 55 = .ok (.getfield 114, 3) := by decide +kernel
theorem dX12_keeps_58 : decode cX12_keeps 58 = .ok (.bipush 107, 2) := by decide +kernel
theorem dX12_keeps_60 : decode cX12_keeps 60 = .ok (.aload_n 0, 1) := by decide +kernel
theorem dX12_keeps_61 : decode cX12_keeps 61 = .ok (.getfield 334, 3) := by decide +kernel
theorem dX12_keeps_64 : decode cX12_keeps 64 = .ok (.imul, 1) := by decide +kernel
theorem dX12_keeps_65 : decode cX12_keeps 65 = .ok (.invokestatic 409, 3) := by decide +kernel
theorem dX12_keeps_68 : decode cX12_keeps 68 = .ok (.aload_n 0, 1) := by decide +kernel
theorem dX12_keeps_69 : decode cX12_keeps 69 = .ok (.dup, 1) := by decide +kernel
theorem dX12_keeps_70 : decode cX12_keeps 70 = .ok (.getfield 334, 3) := by decide +kernel
theorem dX12_keeps_73 : decode cX12_keeps 73 = .ok (.iconst 1, 1) := by decide +kernel
theorem dX12_keeps_74 : decode cX12_keeps 74 = .ok (.iadd, 1) := by decide +kernel
theorem dX12_keeps_75 : decode cX12_keeps 75 = .ok (.putfield 334, 3) := by decide +kernel
theorem dX12_keeps_78 : decode cX12_keeps 78 = .ok (.return_, 1) := by decide +kernel
def g_X12_keeps_49 (t0 : Nat)  (h : zH) : Option zH := (g_X12_copies h (zR t0 44) 107 0 (zR t0 47) 1712 (107 * (h.1 t0 49))).bind fun v_2 => zlet (zpi v_2 t0 49 ((v_2.1 t0 49) + 1)) fun h_3 => some h_3
def g_X12_keeps_11 (t0 : Nat)  : Nat → Int32 → zH → Option zH
  | 0, _, _ => none
  | n + 1, x1, h => if 1605 ≤ x1 then (zlet (zpi h t0 49 ((h.1 t0 49) - 1)) fun h_5 => g_X12_keeps_49 t0 h_5) else (zgu (zin (x1 + 107) 1712) <| zgu (zin x1 1712) <| zlet (zpi h (zR t0 47) (zx x1) (h.1 (zR t0 47) (zx (x1 + 107)))) fun h_8 => g_X12_keeps_11 t0 n (x1 + 1) h_8)
def g_X12_keeps (h : zH) (t0 : Nat) : Option zH := if (h.1 t0 49) = 16 then (g_X12_keeps_11 t0 zfu 0 h) else (g_X12_keeps_49 t0 h)
set_option maxRecDepth 100000 in
set_option maxHeartbeats 4000000 in
theorem b_X12_keeps_49 {K : zK} {G : zG} (hK : zC K G cX12_keeps RX12 2 1 24 none) {t0 : Nat} (ht0 : zT t0 = (11, 0)) {r : zH} (hE : zE K G (none) r) (h : zH) (hg : g_X12_keeps_49 t0 h = some r) : zW K G 2 49 [(0, .ref (G.2.2.2 t0))] [] h := by
  rw [g_X12_keeps_49] at hg
  obtain ⟨v_2, qv_2, hg⟩ := zbind_some hg
  obtain ⟨h_3, eh_3, hg⟩ := zlet_some hg
  exact z_aload_n (pc := 49) hK 0 dX12_keeps_49 rfl (z_getR (pc := 50) hK f_X12_105_11 ht0 dX12_keeps_50 (z_iconst (pc := 53) hK dX12_keeps_53 zc_i0 (z_aload_n (pc := 54) hK 0 dX12_keeps_54 rfl (z_getR (pc := 55) hK f_X12_114_11 ht0 dX12_keeps_55 (z_bipush (pc := 58) hK dX12_keeps_58 zc_b107 (z_aload_n (pc := 60) hK 0 dX12_keeps_60 rfl (z_getI (pc := 61) hK f_X12_334_11 ht0 dX12_keeps_61 (z_imul (pc := 64) hK dX12_keeps_64 (z_callSv (pc := 65) hK [.ref (G.2.2.2 (zR t0 44)), .int 0, .ref (G.2.2.2 (zR t0 47)), .int (107 * (h.1 t0 49))] (m_X12_copies (zC_D hK) (zt_11_44 ht0) (zt_11_47 ht0) qv_2) ss_X12_copies q_1676 rfl [] rfl (Nat.le_of_ble_eq_true rfl) ⟨by decide, by decide⟩ dX12_keeps_65 (z_aload_n (pc := 68) hK 0 dX12_keeps_68 rfl (z_dup (pc := 69) hK dX12_keeps_69 rfl (z_getI (pc := 70) hK f_X12_334_11 ht0 dX12_keeps_70 (z_iconst (pc := 73) hK dX12_keeps_73 zc_i1 (z_iadd (pc := 74) hK dX12_keeps_74 (z_putI (pc := 75) hK f_X12_334_11 fp_11_49 ht0 dX12_keeps_75 (z_nameH eh_3 (z_vretE (pc := 78) hK hE hg dX12_keeps_78)))))))))))))))))
set_option maxRecDepth 100000 in
set_option maxHeartbeats 4000000 in
theorem b_X12_keeps_11 {K : zK} {G : zG} (hK : zC K G cX12_keeps RX12 2 1 24 none) {t0 : Nat} (ht0 : zT t0 = (11, 0)) {r : zH} (hE : zE K G (none) r) : ∀ (n : Nat) (x1 : Int32) (h : zH), g_X12_keeps_11 t0 n x1 h = some r → zW K G 2 11 [(0, .ref (G.2.2.2 t0)), (1, .int x1)] [] h := by
  intro n
  induction n with
  | zero => intro x1 h hg; exact nomatch (show none = some r from hg)
  | succ n ih =>
    intro x1 h hg
    rw [g_X12_keeps_11] at hg
    refine z_iload_n (pc := 11) hK 1 dX12_keeps_11 rfl (z_sipush (pc := 12) hK dX12_keeps_12 zc_s1605 (z_icmp_ge (pc := 15) hK 39 dX12_keeps_15 (by decide) (fun c_4 => ?_) (fun c_4 => ?_)))
    · rw [if_pos c_4] at hg
      obtain ⟨h_5, eh_5, hg⟩ := zlet_some hg
      exact z_aload_n (pc := 39) hK 0 dX12_keeps_39 rfl (z_dup (pc := 40) hK dX12_keeps_40 rfl (z_getI (pc := 41) hK f_X12_334_11 ht0 dX12_keeps_41 (z_iconst (pc := 44) hK dX12_keeps_44 zc_i1 (z_isub (pc := 45) hK dX12_keeps_45 (z_putI (pc := 46) hK f_X12_334_11 fp_11_49 ht0 dX12_keeps_46 (z_nameH eh_5 (zsub (lv' := [(0, .ref (G.2.2.2 t0))]) [0] rfl (b_X12_keeps_49 hK ht0 hE h_5 hg))))))))
    · rw [if_neg c_4] at hg
      obtain ⟨c_6, hg⟩ := zgu_some hg
      obtain ⟨c_7, hg⟩ := zgu_some hg
      obtain ⟨h_8, eh_8, hg⟩ := zlet_some hg
      exact z_aload_n (pc := 18) hK 0 dX12_keeps_18 rfl (z_getR (pc := 19) hK f_X12_114_11 ht0 dX12_keeps_19 (z_iload_n (pc := 22) hK 1 dX12_keeps_22 rfl (z_aload_n (pc := 23) hK 0 dX12_keeps_23 rfl (z_getR (pc := 24) hK f_X12_114_11 ht0 dX12_keeps_24 (z_iload_n (pc := 27) hK 1 dX12_keeps_27 rfl (z_bipush (pc := 28) hK dX12_keeps_28 zc_b107 (z_iadd (pc := 30) hK dX12_keeps_30 (z_iald (pc := 31) hK (zt_11_47 ht0) c_6 dX12_keeps_31 (z_iast (pc := 32) hK (zt_11_47 ht0) c_7 dX12_keeps_32 (z_nameH eh_8 (z_iinc (pc := 33) hK 1 (lv' := [(1, .int (x1 + 1)), (0, .ref (G.2.2.2 t0))]) dX12_keeps_33 rfl (zc_n1 _) (by decide) rfl (z_goto (pc := 36) hK 11 dX12_keeps_36 (by decide) (zsub (lv' := [(0, .ref (G.2.2.2 t0)), (1, .int (x1 + 1))]) [1, 0] rfl (ih (x1 + 1) h_8 hg))))))))))))))
set_option maxRecDepth 100000 in
set_option maxHeartbeats 4000000 in
theorem b_X12_keeps {K : zK} {G : zG} (hK : zC K G cX12_keeps RX12 2 1 24 none) {h : zH} {t0 : Nat} (ht0 : zT t0 = (11, 0)) {r : zH} (hE : zE K G (none) r) (hg : g_X12_keeps h t0 = some r) : zW K G 2 0 [(0, .ref (G.2.2.2 t0))] [] h := by
  rw [g_X12_keeps] at hg
  refine z_aload_n (pc := 0) hK 0 dX12_keeps_0 rfl (z_getI (pc := 1) hK f_X12_334_11 ht0 dX12_keeps_1 (z_bipush (pc := 4) hK dX12_keeps_4 zc_b16 (z_icmp_ne (pc := 6) hK 49 dX12_keeps_6 (by decide) (fun c_1 => ?_) (fun c_1 => ?_))))
  · rw [if_neg c_1] at hg
    exact zsub (lv' := [(0, .ref (G.2.2.2 t0))]) [0] rfl (b_X12_keeps_49 hK ht0 hE h hg)
  · rw [if_pos c_1] at hg
    exact z_iconst (pc := 9) hK dX12_keeps_9 zc_i0 (z_istore_n (pc := 10) hK (lv' := [(1, .int 0), (0, .ref (G.2.2.2 t0))]) dX12_keeps_10 (by decide) rfl (zsub (lv' := [(0, .ref (G.2.2.2 t0)), (1, .int 0)]) [1, 0] rfl (b_X12_keeps_11 hK ht0 hE zfu 0 h hg)))
theorem m_X12_keeps {l : Launch} {G : zG} (hG : zD G) {h : zH} {t0 : Nat} (ht0 : zT t0 = (11, 0)) {r : zH} (hg : g_X12_keeps h t0 = some r) : zM l G yX12_keeps cX12_keeps 2 none 1 24 [.ref (G.2.2.2 t0)] h (none) r :=
  zM_of hG pn_X12 (Nat.le_of_ble_eq_true rfl) (fun K _ hK hE => b_X12_keeps hK ht0 hE hg)
theorem dX12_tax_0 : decode cX12_tax 0 = .ok (.aload_n 0, 1) := by decide +kernel
theorem dX12_tax_1 : decode cX12_tax 1 = .ok (.iconst 0, 1) := by decide +kernel
theorem dX12_tax_2 : decode cX12_tax 2 = .ok (.putfield 126, 3) := by decide +kernel
theorem dX12_tax_5 : decode cX12_tax 5 = .ok (.aload_n 0, 1) := by decide +kernel
theorem dX12_tax_6 : decode cX12_tax 6 = .ok (.invokevirtual 379, 3) := by decide +kernel
theorem dX12_tax_9 : decode cX12_tax 9 = .ok (.istore_n 1, 1) := by decide +kernel
theorem dX12_tax_10 : decode cX12_tax 10 = .ok (.aload_n 0, 1) := by decide +kernel
theorem dX12_tax_11 : decode cX12_tax 11 = .ok (.iload_n 1, 1) := by decide +kernel
theorem dX12_tax_12 : decode cX12_tax 12 = .ok (.invokevirtual 382, 3) := by decide +kernel
theorem dX12_tax_15 : decode cX12_tax 15 = .ok (.ifCond .ne 5, 3) := by decide +kernel
theorem dX12_tax_18 : decode cX12_tax 18 = .ok (.iconst (-1), 1) := by decide +kernel
theorem dX12_tax_19 : decode cX12_tax 19 = .ok (.ireturn, 1) := by decide +kernel
theorem dX12_tax_20 : decode cX12_tax 20 = .ok (.aload_n 0, 1) := by decide +kernel
theorem dX12_tax_21 : decode cX12_tax 21 = .ok (.invokevirtual 413, 3) := by decide +kernel
theorem dX12_tax_24 : decode cX12_tax 24 = .ok (.aload_n 0, 1) := by decide +kernel
theorem dX12_tax_25 : decode cX12_tax 25 = .ok (.iload_n 1, 1) := by decide +kernel
theorem dX12_tax_26 : decode cX12_tax 26 = .ok (.invokevirtual 385, 3) := by decide +kernel
theorem dX12_tax_29 : decode cX12_tax 29 = .ok (.ireturn, 1) := by decide +kernel
def g_X12_tax (h : zH) (t0 : Nat) : Option (Int32 × zH) := zlet (zpi h t0 0 0) fun h_1 => (g_X12_governor h_1 t0).bind fun v_2 => (g_X12_canTax h_1 t0 v_2).bind fun v_3 => if (zb v_3) = 0 then (some ((-1), h_1)) else ((g_X12_keeps h_1 t0).bind fun v_5 => (g_X12_taxes v_5 t0 v_2).bind fun v_6 => some (v_6.1, v_6.2))
set_option maxRecDepth 100000 in
set_option maxHeartbeats 4000000 in
theorem b_X12_tax {K : zK} {G : zG} (hK : zC K G cX12_tax RX12 2 5 116 (some .int)) {h : zH} {t0 : Nat} (ht0 : zT t0 = (11, 0)) {r : Int32 × zH} (hE : zE K G (some (.int r.1)) r.2) (hg : g_X12_tax h t0 = some r) : zW K G 2 0 [(0, .ref (G.2.2.2 t0))] [] h := by
  rw [g_X12_tax] at hg
  obtain ⟨h_1, eh_1, hg⟩ := zlet_some hg
  obtain ⟨v_2, qv_2, hg⟩ := zbind_some hg
  obtain ⟨v_3, qv_3, hg⟩ := zbind_some hg
  refine z_aload_n (pc := 0) hK 0 dX12_tax_0 rfl (z_iconst (pc := 1) hK dX12_tax_1 zc_i0 (z_putI (pc := 2) hK f_X12_126_11 fp_11_0 ht0 dX12_tax_2 (z_nameH eh_1 (z_aload_n (pc := 5) hK 0 dX12_tax_5 rfl (z_callVi (pc := 6) hK [] (m_X12_governor (zC_D hK) ht0 qv_2) sv_X12_governor q_1652 ht0 rfl [] rfl (Nat.le_of_ble_eq_true rfl) ⟨by decide, by decide⟩ dX12_tax_6 (z_istore_n (pc := 9) hK (lv' := [(1, .int v_2), (0, .ref (G.2.2.2 t0))]) dX12_tax_9 (by decide) rfl (z_aload_n (pc := 10) hK 1 dX12_tax_10 rfl (z_iload_n (pc := 11) hK 0 dX12_tax_11 rfl (z_callVi (pc := 12) hK [.int v_2] (m_X12_canTax (zC_D hK) ht0 qv_3) sv_X12_canTax q_1668 ht0 rfl [] rfl (Nat.le_of_ble_eq_true rfl) ⟨by decide, by decide⟩ dX12_tax_12 (z_if_ne (pc := 15) hK 20 dX12_tax_15 (by decide) (fun c_4 => ?_) (fun c_4 => ?_)))))))))))
  · rw [if_neg c_4] at hg
    obtain ⟨v_5, qv_5, hg⟩ := zbind_some hg
    obtain ⟨v_6, qv_6, hg⟩ := zbind_some hg
    exact z_aload_n (pc := 20) hK 1 dX12_tax_20 rfl (z_callVv (pc := 21) hK [] (m_X12_keeps (zC_D hK) ht0 qv_5) sv_X12_keeps q_1672 ht0 rfl [] rfl (Nat.le_of_ble_eq_true rfl) ⟨by decide, by decide⟩ dX12_tax_21 (z_aload_n (pc := 24) hK 1 dX12_tax_24 rfl (z_iload_n (pc := 25) hK 0 dX12_tax_25 rfl (z_callVi (pc := 26) hK [.int v_2] (m_X12_taxes (zC_D hK) ht0 qv_6) sv_X12_taxes q_1679 ht0 rfl [] rfl (Nat.le_of_ble_eq_true rfl) ⟨by decide, by decide⟩ dX12_tax_26 (z_iretE (pc := 29) hK hE hg dX12_tax_29)))))
  · rw [if_pos c_4] at hg
    exact z_iconst (pc := 18) hK dX12_tax_18 zc_im1 (z_iretE (pc := 19) hK hE hg dX12_tax_19)
theorem m_X12_tax {l : Launch} {G : zG} (hG : zD G) {h : zH} {t0 : Nat} (ht0 : zT t0 = (11, 0)) {r : Int32 × zH} (hg : g_X12_tax h t0 = some r) : zM l G yX12_tax cX12_tax 2 (some .int) 5 116 [.ref (G.2.2.2 t0)] h (some (.int r.1)) r.2 :=
  zM_of hG pn_X12 (Nat.le_of_ble_eq_true rfl) (fun K _ hK hE => b_X12_tax hK ht0 hE hg)
theorem dX12_gift_0 : decode cX12_gift 0 = .ok (.aload_n 0, 1) := by decide +kernel
theorem dX12_gift_1 : decode cX12_gift 1 = .ok (.iconst 0, 1) := by decide +kernel
theorem dX12_gift_2 : decode cX12_gift 2 = .ok (.putfield 126, 3) := by decide +kernel
theorem dX12_gift_5 : decode cX12_gift 5 = .ok (.aload_n 0, 1) := by decide +kernel
theorem dX12_gift_6 : decode cX12_gift 6 = .ok (.iload_n 1, 1) := by decide +kernel
theorem dX12_gift_7 : decode cX12_gift 7 = .ok (.iload_n 2, 1) := by decide +kernel
theorem dX12_gift_8 : decode cX12_gift 8 = .ok (.invokevirtual 416, 3) := by decide +kernel
theorem dX12_gift_11 : decode cX12_gift 11 = .ok (.ifCond .ne 5, 3) := by decide +kernel
theorem dX12_gift_14 : decode cX12_gift 14 = .ok (.iconst (-1), 1) := by decide +kernel
theorem dX12_gift_15 : decode cX12_gift 15 = .ok (.ireturn, 1) := by decide +kernel
theorem dX12_gift_16 : decode cX12_gift 16 = .ok (.aload_n 0, 1) := by decide +kernel
theorem dX12_gift_17 : decode cX12_gift 17 = .ok (.invokevirtual 413, 3) := by decide +kernel
theorem dX12_gift_20 : decode cX12_gift 20 = .ok (.aload_n 0, 1) := by decide +kernel
theorem dX12_gift_21 : decode cX12_gift 21 = .ok (.iload_n 1, 1) := by decide +kernel
theorem dX12_gift_22 : decode cX12_gift 22 = .ok (.iload_n 2, 1) := by decide +kernel
theorem dX12_gift_23 : decode cX12_gift 23 = .ok (.invokevirtual 419, 3) := by decide +kernel
theorem dX12_gift_26 : decode cX12_gift 26 = .ok (.pop, 1) := by decide +kernel
theorem dX12_gift_27 : decode cX12_gift 27 = .ok (.aload_n 0, 1) := by decide +kernel
theorem dX12_gift_28 : decode cX12_gift 28 = .ok (.getfield 105, 3) := by decide +kernel
theorem dX12_gift_31 : decode cX12_gift 31 = .ok (.bipush 9, 2) := by decide +kernel
theorem dX12_gift_33 : decode cX12_gift 33 = .ok (.bipush 7, 2) := by decide +kernel
theorem dX12_gift_35 : decode cX12_gift 35 = .ok (.iload_n 2, 1) := by decide +kernel
theorem dX12_gift_36 : decode cX12_gift 36 = .ok (.imul, 1) := by decide +kernel
theorem dX12_gift_37 : decode cX12_gift 37 = .ok (.iadd, 1) := by decide +kernel
theorem dX12_gift_38 : decode cX12_gift 38 = .ok (.iload_n 1, 1) := by decide +kernel
theorem dX12_gift_39 : decode cX12_gift 39 = .ok (.iadd, 1) := by decide +kernel
theorem dX12_gift_40 : decode cX12_gift 40 = .ok (.iaload, 1) := by decide +kernel
theorem dX12_gift_41 : decode cX12_gift 41 = .ok (.ireturn, 1) := by decide +kernel
def g_X12_gift (h : zH) (t0 : Nat) (x1 : Int32) (x2 : Int32) : Option (Int32 × zH) := zlet (zpi h t0 0 0) fun h_1 => (g_X12_areAlive h_1 t0 x1 x2).bind fun v_2 => if (zb v_2) = 0 then (some ((-1), h_1)) else ((g_X12_keeps h_1 t0).bind fun v_4 => (g_X12_gives v_4 t0 x1 x2).bind fun v_5 => zgu (zin ((9 + (7 * x2)) + x1) 107) <| some (v_5.2.1 (zR t0 44) (zx ((9 + (7 * x2)) + x1)), v_5.2))
set_option maxRecDepth 100000 in
set_option maxHeartbeats 4000000 in
theorem b_X12_gift {K : zK} {G : zG} (hK : zC K G cX12_gift RX12 3 5 115 (some .int)) {h : zH} {t0 : Nat} {x1 : Int32} {x2 : Int32} (ht0 : zT t0 = (11, 0)) {r : Int32 × zH} (hE : zE K G (some (.int r.1)) r.2) (hg : g_X12_gift h t0 x1 x2 = some r) : zW K G 3 0 [(0, .ref (G.2.2.2 t0)), (1, .int x1), (2, .int x2)] [] h := by
  rw [g_X12_gift] at hg
  obtain ⟨h_1, eh_1, hg⟩ := zlet_some hg
  obtain ⟨v_2, qv_2, hg⟩ := zbind_some hg
  refine z_aload_n (pc := 0) hK 0 dX12_gift_0 rfl (z_iconst (pc := 1) hK dX12_gift_1 zc_i0 (z_putI (pc := 2) hK f_X12_126_11 fp_11_0 ht0 dX12_gift_2 (z_nameH eh_1 (z_aload_n (pc := 5) hK 0 dX12_gift_5 rfl (z_iload_n (pc := 6) hK 1 dX12_gift_6 rfl (z_iload_n (pc := 7) hK 2 dX12_gift_7 rfl (z_callVi (pc := 8) hK [.int x1, .int x2] (m_X12_areAlive (zC_D hK) ht0 qv_2) sv_X12_areAlive q_1711 ht0 rfl [] rfl (Nat.le_of_ble_eq_true rfl) ⟨by decide, by decide⟩ dX12_gift_8 (z_if_ne (pc := 11) hK 16 dX12_gift_11 (by decide) (fun c_3 => ?_) (fun c_3 => ?_)))))))))
  · rw [if_neg c_3] at hg
    obtain ⟨v_4, qv_4, hg⟩ := zbind_some hg
    obtain ⟨v_5, qv_5, hg⟩ := zbind_some hg
    obtain ⟨c_6, hg⟩ := zgu_some hg
    exact z_aload_n (pc := 16) hK 0 dX12_gift_16 rfl (z_callVv (pc := 17) hK [] (m_X12_keeps (zC_D hK) ht0 qv_4) sv_X12_keeps q_1672 ht0 rfl [] rfl (Nat.le_of_ble_eq_true rfl) ⟨by decide, by decide⟩ dX12_gift_17 (z_aload_n (pc := 20) hK 0 dX12_gift_20 rfl (z_iload_n (pc := 21) hK 1 dX12_gift_21 rfl (z_iload_n (pc := 22) hK 2 dX12_gift_22 rfl (z_callVi (pc := 23) hK [.int x1, .int x2] (m_X12_gives (zC_D hK) ht0 qv_5) sv_X12_gives q_1715 ht0 rfl [] rfl (Nat.le_of_ble_eq_true rfl) ⟨by decide, by decide⟩ dX12_gift_23 (z_pop (pc := 26) hK dX12_gift_26 rfl (z_aload_n (pc := 27) hK 0 dX12_gift_27 rfl (z_getR (pc := 28) hK f_X12_105_11 ht0 dX12_gift_28 (z_bipush (pc := 31) hK dX12_gift_31 zc_b9 (z_bipush (pc := 33) hK dX12_gift_33 zc_b7 (z_iload_n (pc := 35) hK 2 dX12_gift_35 rfl (z_imul (pc := 36) hK dX12_gift_36 (z_iadd (pc := 37) hK dX12_gift_37 (z_iload_n (pc := 38) hK 1 dX12_gift_38 rfl (z_iadd (pc := 39) hK dX12_gift_39 (z_iald (pc := 40) hK (zt_11_44 ht0) c_6 dX12_gift_40 (z_iretE (pc := 41) hK hE hg dX12_gift_41)))))))))))))))))
  · rw [if_pos c_3] at hg
    exact z_iconst (pc := 14) hK dX12_gift_14 zc_im1 (z_iretE (pc := 15) hK hE hg dX12_gift_15)
theorem m_X12_gift {l : Launch} {G : zG} (hG : zD G) {h : zH} {t0 : Nat} {x1 : Int32} {x2 : Int32} (ht0 : zT t0 = (11, 0)) {r : Int32 × zH} (hg : g_X12_gift h t0 x1 x2 = some r) : zM l G yX12_gift cX12_gift 3 (some .int) 5 115 [.ref (G.2.2.2 t0), .int x1, .int x2] h (some (.int r.1)) r.2 :=
  zM_of hG pn_X12 (Nat.le_of_ble_eq_true rfl) (fun K _ hK hE => b_X12_gift hK ht0 hE hg)
theorem dX12_cast_0 : decode cX12_cast 0 = .ok (.aload_n 0, 1) := by decide +kernel
theorem dX12_cast_1 : decode cX12_cast 1 = .ok (.iconst 0, 1) := by decide +kernel
theorem dX12_cast_2 : decode cX12_cast 2 = .ok (.putfield 126, 3) := by decide +kernel
theorem dX12_cast_5 : decode cX12_cast 5 = .ok (.aload_n 0, 1) := by decide +kernel
theorem dX12_cast_6 : decode cX12_cast 6 = .ok (.iload_n 1, 1) := by decide +kernel
theorem dX12_cast_7 : decode cX12_cast 7 = .ok (.iload_n 2, 1) := by decide +kernel
theorem dX12_cast_8 : decode cX12_cast 8 = .ok (.invokevirtual 416, 3) := by decide +kernel
theorem dX12_cast_11 : decode cX12_cast 11 = .ok (.ifCond .eq 14, 3) := by decide +kernel
theorem dX12_cast_14 : decode cX12_cast 14 = .ok (.aload_n 0, 1) := by decide +kernel
theorem dX12_cast_15 : decode cX12_cast 15 = .ok (.getfield 105, 3) := by decide +kernel
theorem dX12_cast_18 : decode cX12_cast 18 = .ok (.iconst 2, 1) := by decide +kernel
theorem dX12_cast_19 : decode cX12_cast 19 = .ok (.iload_n 1, 1) := by decide +kernel
theorem dX12_cast_20 : decode cX12_cast 20 = .ok (.iadd, 1) := by decide +kernel
theorem dX12_cast_21 : decode cX12_cast 21 = .ok (.iaload, 1) := by decide +kernel
theorem dX12_cast_22 : decode cX12_cast 22 = .ok (.ifCond .ne 5, 3) := by decide +kernel
theorem dX12_cast_25 : decode cX12_cast 25 = .ok (.iconst (-1), 1) := by decide +kernel
theorem dX12_cast_26 : decode cX12_cast 26 = .ok (.ireturn, 1) := by decide +kernel
theorem dX12_cast_27 : decode cX12_cast 27 = .ok (.aload_n 0, 1) := by decide +kernel
theorem dX12_cast_28 : decode cX12_cast 28 = .ok (.invokevirtual 413, 3) := by decide +kernel
theorem dX12_cast_31 : decode cX12_cast 31 = .ok (.aload_n 0, 1) := by decide +kernel
theorem dX12_cast_32 : decode cX12_cast 32 = .ok (.iload_n 1, 1) := by decide +kernel
theorem dX12_cast_33 : decode cX12_cast 33 = .ok (.iload_n 2, 1) := by decide +kernel
theorem dX12_cast_34 : decode cX12_cast 34 = .ok (.invokevirtual 403, 3) := by decide +kernel
theorem dX12_cast_37 : decode cX12_cast 37 = .ok (.aload_n 0, 1) := by decide +kernel
theorem dX12_cast_38 : decode cX12_cast 38 = .ok (.iload_n 2, 1) := by decide +kernel
theorem dX12_cast_39 : decode cX12_cast 39 = .ok (.invokevirtual 353, 3) := by decide +kernel
theorem dX12_cast_42 : decode cX12_cast 42 = .ok (.ireturn, 1) := by decide +kernel
def g_X12_cast (h : zH) (t0 : Nat) (x1 : Int32) (x2 : Int32) : Option (Int32 × zH) := zlet (zpi h t0 0 0) fun h_1 => (g_X12_areAlive h_1 t0 x1 x2).bind fun v_2 => if (zb v_2) = 0 then (some ((-1), h_1)) else (zgu (zin (2 + x1) 107) <| if (h_1.1 (zR t0 44) (zx (2 + x1))) = 0 then (some ((-1), h_1)) else ((g_X12_keeps h_1 t0).bind fun v_6 => (g_X12_casts v_6 t0 x1 x2).bind fun v_7 => (g_X12_countsAgainst v_7 t0 x2).bind fun v_8 => some (v_8, v_7)))
set_option maxRecDepth 100000 in
set_option maxHeartbeats 4000000 in
theorem b_X12_cast {K : zK} {G : zG} (hK : zC K G cX12_cast RX12 3 3 65 (some .int)) {h : zH} {t0 : Nat} {x1 : Int32} {x2 : Int32} (ht0 : zT t0 = (11, 0)) {r : Int32 × zH} (hE : zE K G (some (.int r.1)) r.2) (hg : g_X12_cast h t0 x1 x2 = some r) : zW K G 3 0 [(0, .ref (G.2.2.2 t0)), (1, .int x1), (2, .int x2)] [] h := by
  rw [g_X12_cast] at hg
  obtain ⟨h_1, eh_1, hg⟩ := zlet_some hg
  obtain ⟨v_2, qv_2, hg⟩ := zbind_some hg
  refine z_aload_n (pc := 0) hK 0 dX12_cast_0 rfl (z_iconst (pc := 1) hK dX12_cast_1 zc_i0 (z_putI (pc := 2) hK f_X12_126_11 fp_11_0 ht0 dX12_cast_2 (z_nameH eh_1 (z_aload_n (pc := 5) hK 0 dX12_cast_5 rfl (z_iload_n (pc := 6) hK 1 dX12_cast_6 rfl (z_iload_n (pc := 7) hK 2 dX12_cast_7 rfl (z_callVi (pc := 8) hK [.int x1, .int x2] (m_X12_areAlive (zC_D hK) ht0 qv_2) sv_X12_areAlive q_1711 ht0 rfl [] rfl (Nat.le_of_ble_eq_true rfl) ⟨by decide, by decide⟩ dX12_cast_8 (z_if_eq (pc := 11) hK 25 dX12_cast_11 (by decide) (fun c_3 => ?_) (fun c_3 => ?_)))))))))
  · rw [if_pos c_3] at hg
    exact z_iconst (pc := 25) hK dX12_cast_25 zc_im1 (z_iretE (pc := 26) hK hE hg dX12_cast_26)
  · rw [if_neg c_3] at hg
    obtain ⟨c_4, hg⟩ := zgu_some hg
    refine z_aload_n (pc := 14) hK 0 dX12_cast_14 rfl (z_getR (pc := 15) hK f_X12_105_11 ht0 dX12_cast_15 (z_iconst (pc := 18) hK dX12_cast_18 zc_i2 (z_iload_n (pc := 19) hK 1 dX12_cast_19 rfl (z_iadd (pc := 20) hK dX12_cast_20 (z_iald (pc := 21) hK (zt_11_44 ht0) c_4 dX12_cast_21 (z_if_ne (pc := 22) hK 27 dX12_cast_22 (by decide) (fun c_5 => ?_) (fun c_5 => ?_)))))))
    · rw [if_neg c_5] at hg
      obtain ⟨v_6, qv_6, hg⟩ := zbind_some hg
      obtain ⟨v_7, qv_7, hg⟩ := zbind_some hg
      obtain ⟨v_8, qv_8, hg⟩ := zbind_some hg
      exact z_aload_n (pc := 27) hK 0 dX12_cast_27 rfl (z_callVv (pc := 28) hK [] (m_X12_keeps (zC_D hK) ht0 qv_6) sv_X12_keeps q_1672 ht0 rfl [] rfl (Nat.le_of_ble_eq_true rfl) ⟨by decide, by decide⟩ dX12_cast_28 (z_aload_n (pc := 31) hK 0 dX12_cast_31 rfl (z_iload_n (pc := 32) hK 1 dX12_cast_32 rfl (z_iload_n (pc := 33) hK 2 dX12_cast_33 rfl (z_callVv (pc := 34) hK [.int x1, .int x2] (m_X12_casts (zC_D hK) ht0 qv_7) sv_X12_casts q_1724 ht0 rfl [] rfl (Nat.le_of_ble_eq_true rfl) ⟨by decide, by decide⟩ dX12_cast_34 (z_aload_n (pc := 37) hK 0 dX12_cast_37 rfl (z_iload_n (pc := 38) hK 2 dX12_cast_38 rfl (z_callVi (pc := 39) hK [.int x2] (m_X12_countsAgainst (zC_D hK) ht0 qv_8) sv_X12_countsAgainst q_1624 ht0 rfl [] rfl (Nat.le_of_ble_eq_true rfl) ⟨by decide, by decide⟩ dX12_cast_39 (z_iretE (pc := 42) hK hE hg dX12_cast_42)))))))))
    · rw [if_pos c_5] at hg
      exact z_iconst (pc := 25) hK dX12_cast_25 zc_im1 (z_iretE (pc := 26) hK hE hg dX12_cast_26)
theorem m_X12_cast {l : Launch} {G : zG} (hG : zD G) {h : zH} {t0 : Nat} {x1 : Int32} {x2 : Int32} (ht0 : zT t0 = (11, 0)) {r : Int32 × zH} (hg : g_X12_cast h t0 x1 x2 = some r) : zM l G yX12_cast cX12_cast 3 (some .int) 3 65 [.ref (G.2.2.2 t0), .int x1, .int x2] h (some (.int r.1)) r.2 :=
  zM_of hG pn_X12 (Nat.le_of_ble_eq_true rfl) (fun K _ hK hE => b_X12_cast hK ht0 hE hg)
theorem dX12_die_0 : decode cX12_die 0 = .ok (.aload_n 0, 1) := by decide +kernel
theorem dX12_die_1 : decode cX12_die 1 = .ok (.iconst 0, 1) := by decide +kernel
theorem dX12_die_2 : decode cX12_die 2 = .ok (.putfield 126, 3) := by decide +kernel
theorem dX12_die_5 : decode cX12_die 5 = .ok (.aload_n 0, 1) := by decide +kernel
theorem dX12_die_6 : decode cX12_die 6 = .ok (.iload_n 1, 1) := by decide +kernel
theorem dX12_die_7 : decode cX12_die 7 = .ok (.invokevirtual 344, 3) := by decide +kernel
theorem dX12_die_10 : decode cX12_die 10 = .ok (.ifCond .eq 11, 3) := by decide +kernel
theorem dX12_die_13 : decode cX12_die 13 = .ok (.aload_n 0, 1) := by decide +kernel
theorem dX12_die_14 : decode cX12_die 14 = .ok (.iload_n 1, 1) := by decide +kernel
theorem dX12_die_15 : decode cX12_die 15 = .ok (.invokevirtual 350, 3) := by decide +kernel
theorem dX12_die_18 : decode cX12_die 18 = .ok (.ifCond .ne 5, 3) := by decide +kernel
theorem dX12_die_21 : decode cX12_die 21 = .ok (.iconst (-1), 1) := by decide +kernel
theorem dX12_die_22 : decode cX12_die 22 = .ok (.ireturn, 1) := by decide +kernel
theorem dX12_die_23 : decode cX12_die 23 = .ok (.aload_n 0, 1) := by decide +kernel
theorem dX12_die_24 : decode cX12_die 24 = .ok (.invokevirtual 413, 3) := by decide +kernel
theorem dX12_die_27 : decode cX12_die 27 = .ok (.aload_n 0, 1) := by decide +kernel
theorem dX12_die_28 : decode cX12_die 28 = .ok (.iload_n 1, 1) := by decide +kernel
theorem dX12_die_29 : decode cX12_die 29 = .ok (.invokevirtual 422, 3) := by decide +kernel
theorem dX12_die_32 : decode cX12_die 32 = .ok (.ireturn, 1) := by decide +kernel
def g_X12_die (h : zH) (t0 : Nat) (x1 : Int32) : Option (Int32 × zH) := zlet (zpi h t0 0 0) fun h_1 => (g_X12_isPerson h_1 t0 x1).bind fun v_2 => if (zb v_2) = 0 then (some ((-1), h_1)) else ((g_X12_isAlive h_1 t0 x1).bind fun v_4 => if (zb v_4) = 0 then (some ((-1), h_1)) else ((g_X12_keeps h_1 t0).bind fun v_6 => (g_X12_dies v_6 t0 x1).bind fun v_7 => some (v_7.1, v_7.2)))
set_option maxRecDepth 100000 in
set_option maxHeartbeats 4000000 in
theorem b_X12_die {K : zK} {G : zG} (hK : zC K G cX12_die RX12 2 2 45 (some .int)) {h : zH} {t0 : Nat} {x1 : Int32} (ht0 : zT t0 = (11, 0)) {r : Int32 × zH} (hE : zE K G (some (.int r.1)) r.2) (hg : g_X12_die h t0 x1 = some r) : zW K G 2 0 [(0, .ref (G.2.2.2 t0)), (1, .int x1)] [] h := by
  rw [g_X12_die] at hg
  obtain ⟨h_1, eh_1, hg⟩ := zlet_some hg
  obtain ⟨v_2, qv_2, hg⟩ := zbind_some hg
  refine z_aload_n (pc := 0) hK 0 dX12_die_0 rfl (z_iconst (pc := 1) hK dX12_die_1 zc_i0 (z_putI (pc := 2) hK f_X12_126_11 fp_11_0 ht0 dX12_die_2 (z_nameH eh_1 (z_aload_n (pc := 5) hK 0 dX12_die_5 rfl (z_iload_n (pc := 6) hK 1 dX12_die_6 rfl (z_callVi (pc := 7) hK [.int x1] (m_X12_isPerson (zC_D hK) ht0 qv_2) sv_X12_isPerson q_1620 ht0 rfl [] rfl (Nat.le_of_ble_eq_true rfl) ⟨by decide, by decide⟩ dX12_die_7 (z_if_eq (pc := 10) hK 21 dX12_die_10 (by decide) (fun c_3 => ?_) (fun c_3 => ?_))))))))
  · rw [if_pos c_3] at hg
    exact z_iconst (pc := 21) hK dX12_die_21 zc_im1 (z_iretE (pc := 22) hK hE hg dX12_die_22)
  · rw [if_neg c_3] at hg
    obtain ⟨v_4, qv_4, hg⟩ := zbind_some hg
    refine z_aload_n (pc := 13) hK 0 dX12_die_13 rfl (z_iload_n (pc := 14) hK 1 dX12_die_14 rfl (z_callVi (pc := 15) hK [.int x1] (m_X12_isAlive (zC_D hK) ht0 qv_4) sv_X12_isAlive q_1628 ht0 rfl [] rfl (Nat.le_of_ble_eq_true rfl) ⟨by decide, by decide⟩ dX12_die_15 (z_if_ne (pc := 18) hK 23 dX12_die_18 (by decide) (fun c_5 => ?_) (fun c_5 => ?_))))
    · rw [if_neg c_5] at hg
      obtain ⟨v_6, qv_6, hg⟩ := zbind_some hg
      obtain ⟨v_7, qv_7, hg⟩ := zbind_some hg
      exact z_aload_n (pc := 23) hK 0 dX12_die_23 rfl (z_callVv (pc := 24) hK [] (m_X12_keeps (zC_D hK) ht0 qv_6) sv_X12_keeps q_1672 ht0 rfl [] rfl (Nat.le_of_ble_eq_true rfl) ⟨by decide, by decide⟩ dX12_die_24 (z_aload_n (pc := 27) hK 0 dX12_die_27 rfl (z_iload_n (pc := 28) hK 1 dX12_die_28 rfl (z_callVi (pc := 29) hK [.int x1] (m_X12_dies (zC_D hK) ht0 qv_7) sv_X12_dies q_1732 ht0 rfl [] rfl (Nat.le_of_ble_eq_true rfl) ⟨by decide, by decide⟩ dX12_die_29 (z_iretE (pc := 32) hK hE hg dX12_die_32)))))
    · rw [if_pos c_5] at hg
      exact z_iconst (pc := 21) hK dX12_die_21 zc_im1 (z_iretE (pc := 22) hK hE hg dX12_die_22)
theorem m_X12_die {l : Launch} {G : zG} (hG : zD G) {h : zH} {t0 : Nat} {x1 : Int32} (ht0 : zT t0 = (11, 0)) {r : Int32 × zH} (hg : g_X12_die h t0 x1 = some r) : zM l G yX12_die cX12_die 2 (some .int) 2 45 [.ref (G.2.2.2 t0), .int x1] h (some (.int r.1)) r.2 :=
  zM_of hG pn_X12 (Nat.le_of_ble_eq_true rfl) (fun K _ hK hE => b_X12_die hK ht0 hE hg)
theorem dX12_day_0 : decode cX12_day 0 = .ok (.aload_n 0, 1) := by decide +kernel
theorem dX12_day_1 : decode cX12_day 1 = .ok (.iconst 0, 1) := by decide +kernel
theorem dX12_day_2 : decode cX12_day 2 = .ok (.putfield 126, 3) := by decide +kernel
theorem dX12_day_5 : decode cX12_day 5 = .ok (.aload_n 0, 1) := by decide +kernel
theorem dX12_day_6 : decode cX12_day 6 = .ok (.invokevirtual 413, 3) := by decide +kernel
theorem dX12_day_9 : decode cX12_day 9 = .ok (.aload_n 0, 1) := by decide +kernel
theorem dX12_day_10 : decode cX12_day 10 = .ok (.aload_n 0, 1) := by decide +kernel
theorem dX12_day_11 : decode cX12_day 11 = .ok (.getfield 13, 3) := by decide +kernel
theorem dX12_day_14 : decode cX12_day 14 = .ok (.iconst 1, 1) := by decide +kernel
theorem dX12_day_15 : decode cX12_day 15 = .ok (.iaload, 1) := by decide +kernel
theorem dX12_day_16 : decode cX12_day 16 = .ok (.invokevirtual 425, 3) := by decide +kernel
theorem dX12_day_19 : decode cX12_day 19 = .ok (.ireturn, 1) := by decide +kernel
def g_X12_day (h : zH) (t0 : Nat) : Option (Int32 × zH) := zlet (zpi h t0 0 0) fun h_1 => (g_X12_keeps h_1 t0).bind fun v_2 => zgu (zin 1 8) <| (g_X12_passes v_2 t0 (v_2.1 (zR t0 10) (zx 1))).bind fun v_4 => some (v_4.1, v_4.2)
set_option maxRecDepth 100000 in
set_option maxHeartbeats 4000000 in
theorem b_X12_day {K : zK} {G : zG} (hK : zC K G cX12_day RX12 1 4 91 (some .int)) {h : zH} {t0 : Nat} (ht0 : zT t0 = (11, 0)) {r : Int32 × zH} (hE : zE K G (some (.int r.1)) r.2) (hg : g_X12_day h t0 = some r) : zW K G 1 0 [(0, .ref (G.2.2.2 t0))] [] h := by
  rw [g_X12_day] at hg
  obtain ⟨h_1, eh_1, hg⟩ := zlet_some hg
  obtain ⟨v_2, qv_2, hg⟩ := zbind_some hg
  obtain ⟨c_3, hg⟩ := zgu_some hg
  obtain ⟨v_4, qv_4, hg⟩ := zbind_some hg
  exact z_aload_n (pc := 0) hK 0 dX12_day_0 rfl (z_iconst (pc := 1) hK dX12_day_1 zc_i0 (z_putI (pc := 2) hK f_X12_126_11 fp_11_0 ht0 dX12_day_2 (z_nameH eh_1 (z_aload_n (pc := 5) hK 0 dX12_day_5 rfl (z_callVv (pc := 6) hK [] (m_X12_keeps (zC_D hK) ht0 qv_2) sv_X12_keeps q_1672 ht0 rfl [] rfl (Nat.le_of_ble_eq_true rfl) ⟨by decide, by decide⟩ dX12_day_6 (z_aload_n (pc := 9) hK 0 dX12_day_9 rfl (z_aload_n (pc := 10) hK 0 dX12_day_10 rfl (z_getR (pc := 11) hK f_X12_13_11 ht0 dX12_day_11 (z_iconst (pc := 14) hK dX12_day_14 zc_i1 (z_iald (pc := 15) hK (zt_11_10 ht0) c_3 dX12_day_15 (z_callVi (pc := 16) hK [.int (v_2.1 (zR t0 10) (zx 1))] (m_X12_passes (zC_D hK) ht0 qv_4) sv_X12_passes q_1740 ht0 rfl [] rfl (Nat.le_of_ble_eq_true rfl) ⟨by decide, by decide⟩ dX12_day_16 (z_iretE (pc := 19) hK hE hg dX12_day_19))))))))))))
theorem m_X12_day {l : Launch} {G : zG} (hG : zD G) {h : zH} {t0 : Nat} (ht0 : zT t0 = (11, 0)) {r : Int32 × zH} (hg : g_X12_day h t0 = some r) : zM l G yX12_day cX12_day 1 (some .int) 4 91 [.ref (G.2.2.2 t0)] h (some (.int r.1)) r.2 :=
  zM_of hG pn_X12 (Nat.le_of_ble_eq_true rfl) (fun K _ hK hE => b_X12_day hK ht0 hE hg)
theorem dX12_undo_0 : decode cX12_undo 0 = .ok (.aload_n 0, 1) := by decide +kernel
theorem dX12_undo_1 : decode cX12_undo 1 = .ok (.iconst 0, 1) := by decide +kernel
theorem dX12_undo_2 : decode cX12_undo 2 = .ok (.putfield 126, 3) := by decide +kernel
theorem dX12_undo_5 : decode cX12_undo 5 = .ok (.aload_n 0, 1) := by decide +kernel
theorem dX12_undo_6 : decode cX12_undo 6 = .ok (.getfield 334, 3) := by decide +kernel
theorem dX12_undo_9 : decode cX12_undo 9 = .ok (.ifCond .ne 5, 3) := by decide +kernel
theorem dX12_undo_12 : decode cX12_undo 12 = .ok (.iconst 0, 1) := by decide +kernel
theorem dX12_undo_13 : decode cX12_undo 13 = .ok (.ireturn, 1) := by decide +kernel
theorem dX12_undo_14 : decode cX12_undo 14 = .ok (.aload_n 0, 1) := by decide +kernel
theorem dX12_undo_15 : decode cX12_undo 15 = .ok (.dup, 1) := by decide +kernel
theorem dX12_undo_16 : decode cX12_undo 16 = .ok (.getfield 334, 3) := by decide +kernel
theorem dX12_undo_19 : decode cX12_undo 19 = .ok (.iconst 1, 1) := by decide +kernel
theorem dX12_undo_20 : decode cX12_undo 20 = .ok (.isub, 1) := by decide +kernel
theorem dX12_undo_21 : decode cX12_undo 21 = .ok (.putfield 334, 3) := by decide +kernel
theorem dX12_undo_24 : decode cX12_undo 24 = .ok (.aload_n 0, 1) := by decide +kernel
theorem dX12_undo_25 : decode cX12_undo 25 = .ok (.getfield 114, 3) := by decide +kernel
theorem dX12_undo_28 : decode cX12_undo 28 = .ok (.bipush 107, 2) := by decide +kernel
theorem dX12_undo_30 : decode cX12_undo 30 = .ok (.aload_n 0, 1) := by decide +kernel
theorem dX12_undo_31 : decode cX12_undo 31 = .ok (.getfield 334, 3) := by decide +kernel
theorem dX12_undo_34 : decode cX12_undo 34 = .ok (.imul, 1) := by decide +kernel
theorem dX12_undo_35 : decode cX12_undo 35 = .ok (.aload_n 0, 1) := by decide +kernel
theorem dX12_undo_36 : decode cX12_undo 36 = .ok (.getfield 105, 3) := by decide +kernel
theorem dX12_undo_39 : decode cX12_undo 39 = .ok (.iconst 0, 1) := by decide +kernel
theorem dX12_undo_40 : decode cX12_undo 40 = .ok (.invokestatic 409, 3) := by decide +kernel
theorem dX12_undo_43 : decode cX12_undo 43 = .ok (.iconst 1, 1) := by decide +kernel
theorem dX12_undo_44 : decode cX12_undo 44 = .ok (.ireturn, 1) := by decide +kernel
def g_X12_undo (h : zH) (t0 : Nat) : Option (Bool × zH) := zlet (zpi h t0 0 0) fun h_1 => if (h_1.1 t0 49) = 0 then (some (false, h_1)) else (zlet (zpi h_1 t0 49 ((h_1.1 t0 49) - 1)) fun h_3 => (g_X12_copies h_3 (zR t0 47) 1712 (107 * (h_3.1 t0 49)) (zR t0 44) 107 0).bind fun v_4 => some (true, v_4))
set_option maxRecDepth 100000 in
set_option maxHeartbeats 4000000 in
theorem b_X12_undo {K : zK} {G : zG} (hK : zC K G cX12_undo RX12 1 1 24 (some .boolean)) {h : zH} {t0 : Nat} (ht0 : zT t0 = (11, 0)) {r : Bool × zH} (hE : zE K G (some (.int (zb r.1))) r.2) (hg : g_X12_undo h t0 = some r) : zW K G 1 0 [(0, .ref (G.2.2.2 t0))] [] h := by
  rw [g_X12_undo] at hg
  obtain ⟨h_1, eh_1, hg⟩ := zlet_some hg
  refine z_aload_n (pc := 0) hK 0 dX12_undo_0 rfl (z_iconst (pc := 1) hK dX12_undo_1 zc_i0 (z_putI (pc := 2) hK f_X12_126_11 fp_11_0 ht0 dX12_undo_2 (z_nameH eh_1 (z_aload_n (pc := 5) hK 0 dX12_undo_5 rfl (z_getI (pc := 6) hK f_X12_334_11 ht0 dX12_undo_6 (z_if_ne (pc := 9) hK 14 dX12_undo_9 (by decide) (fun c_2 => ?_) (fun c_2 => ?_)))))))
  · rw [if_neg c_2] at hg
    obtain ⟨h_3, eh_3, hg⟩ := zlet_some hg
    obtain ⟨v_4, qv_4, hg⟩ := zbind_some hg
    exact z_aload_n (pc := 14) hK 0 dX12_undo_14 rfl (z_dup (pc := 15) hK dX12_undo_15 rfl (z_getI (pc := 16) hK f_X12_334_11 ht0 dX12_undo_16 (z_iconst (pc := 19) hK dX12_undo_19 zc_i1 (z_isub (pc := 20) hK dX12_undo_20 (z_putI (pc := 21) hK f_X12_334_11 fp_11_49 ht0 dX12_undo_21 (z_nameH eh_3 (z_aload_n (pc := 24) hK 0 dX12_undo_24 rfl (z_getR (pc := 25) hK f_X12_114_11 ht0 dX12_undo_25 (z_bipush (pc := 28) hK dX12_undo_28 zc_b107 (z_aload_n (pc := 30) hK 0 dX12_undo_30 rfl (z_getI (pc := 31) hK f_X12_334_11 ht0 dX12_undo_31 (z_imul (pc := 34) hK dX12_undo_34 (z_aload_n (pc := 35) hK 0 dX12_undo_35 rfl (z_getR (pc := 36) hK f_X12_105_11 ht0 dX12_undo_36 (z_iconst (pc := 39) hK dX12_undo_39 zc_i0 (z_callSv (pc := 40) hK [.ref (G.2.2.2 (zR t0 47)), .int (107 * (h_3.1 t0 49)), .ref (G.2.2.2 (zR t0 44)), .int 0] (m_X12_copies (zC_D hK) (zt_11_47 ht0) (zt_11_44 ht0) qv_4) ss_X12_copies q_1676 rfl [] rfl (Nat.le_of_ble_eq_true rfl) ⟨by decide, by decide⟩ dX12_undo_40 (z_iconst (pc := 43) hK dX12_undo_43 zc_i1 (z_zretE (pc := 44) hK rfl hE hg dX12_undo_44))))))))))))))))))
  · rw [if_pos c_2] at hg
    exact z_iconst (pc := 12) hK dX12_undo_12 zc_i0 (z_zretE (pc := 13) hK rfl hE hg dX12_undo_13)
theorem m_X12_undo {l : Launch} {G : zG} (hG : zD G) {h : zH} {t0 : Nat} (ht0 : zT t0 = (11, 0)) {r : Bool × zH} (hg : g_X12_undo h t0 = some r) : zM l G yX12_undo cX12_undo 1 (some .boolean) 1 24 [.ref (G.2.2.2 t0)] h (some (.int (zb r.1))) r.2 :=
  zM_of hG pn_X12 (Nat.le_of_ble_eq_true rfl) (fun K _ hK hE => b_X12_undo hK ht0 hE hg)
theorem dX12_goes_0 : decode cX12_goes 0 = .ok (.aload_n 0, 1) := by decide +kernel
theorem dX12_goes_1 : decode cX12_goes 1 = .ok (.getfield 87, 3) := by decide +kernel
theorem dX12_goes_4 : decode cX12_goes 4 = .ok (.iload_n 1, 1) := by decide +kernel
theorem dX12_goes_5 : decode cX12_goes 5 = .ok (.iaload, 1) := by decide +kernel
theorem dX12_goes_6 : decode cX12_goes 6 = .ok (.istore_n 2, 1) := by decide +kernel
theorem dX12_goes_7 : decode cX12_goes 7 = .ok (.aload_n 0, 1) := by decide +kernel
theorem dX12_goes_8 : decode cX12_goes 8 = .ok (.getfield 90, 3) := by decide +kernel
theorem dX12_goes_11 : decode cX12_goes 11 = .ok (.iload_n 1, 1) := by decide +kernel
theorem dX12_goes_12 : decode cX12_goes 12 = .ok (.iaload, 1) := by decide +kernel
theorem dX12_goes_13 : decode cX12_goes 13 = .ok (.istore_n 3, 1) := by decide +kernel
theorem dX12_goes_14 : decode cX12_goes 14 = .ok (.aload_n 0, 1) := by decide +kernel
theorem dX12_goes_15 : decode cX12_goes 15 = .ok (.getfield 93, 3) := by decide +kernel
theorem dX12_goes_18 : decode cX12_goes 18 = .ok (.iload_n 1, 1) := by decide +kernel
theorem dX12_goes_19 : decode cX12_goes 19 = .ok (.iaload, 1) := by decide +kernel
theorem dX12_goes_20 : decode cX12_goes 20 = .ok (.istore 4, 2) := by decide +kernel
theorem dX12_goes_22 : decode cX12_goes 22 = .ok (.iload_n 2, 1) := by decide +kernel
theorem dX12_goes_23 : decode cX12_goes 23 = .ok (.ifCond .ne 28, 3) := by decide +kernel
theorem dX12_goes_26 : decode cX12_goes 26 = .ok (.aload_n 0, 1) := by decide +kernel
theorem dX12_goes_27 : decode cX12_goes 27 = .ok (.aload_n 0, 1) := by decide +kernel
theorem dX12_goes_28 : decode cX12_goes 28 = .ok (.invokevirtual 379, 3) := by decide +kernel
theorem dX12_goes_31 : decode cX12_goes 31 = .ok (.invokevirtual 382, 3) := by decide +kernel
theorem dX12_goes_34 : decode cX12_goes 34 = .ok (.ifCond .ne 5, 3) := by decide +kernel
theorem dX12_goes_37 : decode cX12_goes 37 = .ok (.iconst 0, 1) := by decide +kernel
theorem dX12_goes_38 : decode cX12_goes 38 = .ok (.ireturn, 1) := by decide +kernel
theorem dX12_goes_39 : decode cX12_goes 39 = .ok (.aload_n 0, 1) := by decide +kernel
theorem dX12_goes_40 : decode cX12_goes 40 = .ok (.aload_n 0, 1) := by decide +kernel
theorem dX12_goes_41 : decode cX12_goes 41 = .ok (.invokevirtual 379, 3) := by decide +kernel
theorem dX12_goes_44 : decode cX12_goes 44 = .ok (.invokevirtual 385, 3) := by decide +kernel
theorem dX12_goes_47 : decode cX12_goes 47 = .ok (.pop, 1) := by decide +kernel
theorem dX12_goes_48 : decode cX12_goes 48 = .ok (.goto 104, 3) := by decide +kernel
theorem dX12_goes_51 : decode cX12_goes 51 = .ok (.iload_n 2, 1) := by decide +kernel
theorem dX12_goes_52 : decode cX12_goes 52 = .ok (.iconst 1, 1) := by decide +kernel
theorem dX12_goes_53 : decode cX12_goes 53 = .ok (.if_icmp .ne 26, 3) := by decide +kernel
theorem dX12_goes_56 : decode cX12_goes 56 = .ok (.aload_n 0, 1) := by decide +kernel
theorem dX12_goes_57 : decode cX12_goes 57 = .ok (.iload_n 3, 1) := by decide +kernel
theorem dX12_goes_58 : decode cX12_goes 58 = .ok (.iload 4, 2) := by decide +kernel
theorem dX12_goes_60 : decode cX12_goes 60 = .ok (.invokevirtual 416, 3) := by decide +kernel
theorem dX12_goes_63 : decode cX12_goes 63 = .ok (.ifCond .ne 5, 3) := by decide +kernel
theorem dX12_goes_66 : decode cX12_goes 66 = .ok (.iconst 0, 1) := by decide +kernel
theorem dX12_goes_67 : decode cX12_goes 67 = .ok (.ireturn, 1) := by decide +kernel
theorem dX12_goes_68 : decode cX12_goes 68 = .ok (.aload_n 0, 1) := by decide +kernel
theorem dX12_goes_69 : decode cX12_goes 69 = .ok (.iload_n 3, 1) := by decide +kernel
theorem dX12_goes_70 : decode cX12_goes 70 = .ok (.iload 4, 2) := by decide +kernel
theorem dX12_goes_72 : decode cX12_goes 72 = .ok (.invokevirtual 419, 3) := by decide +kernel
theorem dX12_goes_75 : decode cX12_goes 75 = .ok (.pop, 1) := by decide +kernel
theorem dX12_goes_76 : decode cX12_goes 76 = .ok (.goto 76, 3) := by decide +kernel
theorem dX12_goes_79 : decode cX12_goes 79 = .ok (.iload_n 2, 1) := by decide +kernel
theorem dX12_goes_80 : decode cX12_goes 80 = .ok (.iconst 2, 1) := by decide +kernel
theorem dX12_goes_81 : decode cX12_goes 81 = .ok (.if_icmp .ne 36, 3) := by decide +kernel
theorem dX12_goes_84 : decode cX12_goes 84 = .ok (.aload_n 0, 1) := by decide +kernel
theorem dX12_goes_85 : decode cX12_goes 85 = .ok (.iload_n 3, 1) := by decide +kernel
theorem dX12_goes_86 : decode cX12_goes 86 = .ok (.iload 4, 2) := by decide +kernel
theorem dX12_goes_88 : decode cX12_goes 88 = .ok (.invokevirtual 416, 3) := by decide +kernel
theorem dX12_goes_91 : decode cX12_goes 91 = .ok (.ifCond .eq 14, 3) := by decide +kernel
theorem dX12_goes_94 : decode cX12_goes 94 = .ok (.aload_n 0, 1) := by decide +kernel
theorem dX12_goes_95 : decode cX12_goes 95 = .ok (.getfield 105, 3) := by decide +kernel
theorem dX12_goes_98 : decode cX12_goes 98 = .ok (.iconst 2, 1) := by decide +kernel
theorem dX12_goes_99 : decode cX12_goes 99 = .ok (.iload_n 3, 1) := by decide +kernel
theorem dX12_goes_100 : decode cX12_goes 100 = .ok (.iadd, 1) := by decide +kernel
theorem dX12_goes_101 : decode cX12_goes 101 = .ok (.iaload, 1) := by decide +kernel
theorem dX12_goes_102 : decode cX12_goes 102 = .ok (.ifCond .ne 5, 3) := by decide +kernel
theorem dX12_goes_105 : decode cX12_goes 105 = .ok (.iconst 0, 1) := by decide +kernel
theorem dX12_goes_106 : decode cX12_goes 106 = .ok (.ireturn, 1) := by decide +kernel
theorem dX12_goes_107 : decode cX12_goes 107 = .ok (.aload_n 0, 1) := by decide +kernel
theorem dX12_goes_108 : decode cX12_goes 108 = .ok (.iload_n 3, 1) := by decide +kernel
theorem dX12_goes_109 : decode cX12_goes 109 = .ok (.iload 4, 2) := by decide +kernel
theorem dX12_goes_111 : decode cX12_goes 111 = .ok (.invokevirtual 403, 3) := by decide +kernel
theorem dX12_goes_114 : decode cX12_goes 114 = .ok (.goto 38, 3) := by decide +kernel
theorem dX12_goes_117 : decode cX12_goes 117 = .ok (.iload_n 2, 1) := by decide +kernel
theorem dX12_goes_118 : decode cX12_goes 118 = .ok (.iconst 3, 1) := by decide +kernel
theorem dX12_goes_119 : decode cX12_goes 119 = .ok (.if_icmp .ne 22, 3) := by decide +kernel
theorem dX12_goes_122 : decode cX12_goes 122 = .ok (.aload_n 0, 1) := by decide +kernel
theorem dX12_goes_123 : decode cX12_goes 123 = .ok (.iload_n 3, 1) := by decide +kernel
theorem dX12_goes_124 : decode cX12_goes 124 = .ok (.invokevirtual 350, 3) := by decide +kernel
theorem dX12_goes_127 : decode cX12_goes 127 = .ok (.ifCond .ne 5, 3) := by decide +kernel
theorem dX12_goes_130 : decode cX12_goes 130 = .ok (.iconst 0, 1) := by decide +kernel
theorem dX12_goes_131 : decode cX12_goes 131 = .ok (.ireturn, 1) := by decide +kernel
theorem dX12_goes_132 : decode cX12_goes 132 = .ok (.aload_n 0, 1) := by decide +kernel
theorem dX12_goes_133 : decode cX12_goes 133 = .ok (.iload_n 3, 1) := by decide +kernel
theorem dX12_goes_134 : decode cX12_goes 134 = .ok (.invokevirtual 422, 3) := by decide +kernel
theorem dX12_goes_137 : decode cX12_goes 137 = .ok (.pop, 1) := by decide +kernel
theorem dX12_goes_138 : decode cX12_goes 138 = .ok (.goto 14, 3) := by decide +kernel
theorem dX12_goes_141 : decode cX12_goes 141 = .ok (.aload_n 0, 1) := by decide +kernel
theorem dX12_goes_142 : decode cX12_goes 142 = .ok (.aload_n 0, 1) := by decide +kernel
theorem dX12_goes_143 : decode cX12_goes 143 = .ok (.getfield 13, 3) := by decide +kernel
theorem dX12_goes_146 : decode cX12_goes 146 = .ok (.iconst 1, 1) := by decide +kernel
theorem dX12_goes_147 : decode cX12_goes 147 = .ok (.iaload, 1) := by decide +kernel
theorem dX12_goes_148 : decode cX12_goes 148 = .ok (.invokevirtual 425, 3) := by decide +kernel
theorem dX12_goes_151 : decode cX12_goes 151 = .ok (.pop, 1) := by decide +kernel
theorem dX12_goes_152 : decode cX12_goes 152 = .ok (.iconst 1, 1) := by decide +kernel
theorem dX12_goes_153 : decode cX12_goes 153 = .ok (.ireturn, 1) := by decide +kernel
def g_X12_goes (h : zH) (t0 : Nat) (x1 : Int32) : Option (Bool × zH) := zgu (zin x1 240) <| zlet (h.1 (zR t0 38) (zx x1)) fun v_2 => zgu (zin x1 240) <| zlet (h.1 (zR t0 39) (zx x1)) fun v_4 => zgu (zin x1 240) <| zlet (h.1 (zR t0 40) (zx x1)) fun v_6 => if v_2 = 0 then ((g_X12_governor h t0).bind fun v_24 => (g_X12_canTax h t0 v_24).bind fun v_25 => if (zb v_25) = 0 then (some (false, h)) else ((g_X12_governor h t0).bind fun v_27 => (g_X12_taxes h t0 v_27).bind fun v_28 => some (true, v_28.2))) else (if v_2 = 1 then ((g_X12_areAlive h t0 v_4 v_6).bind fun v_21 => if (zb v_21) = 0 then (some (false, h)) else ((g_X12_gives h t0 v_4 v_6).bind fun v_23 => some (true, v_23.2))) else (if v_2 = 2 then ((g_X12_areAlive h t0 v_4 v_6).bind fun v_16 => if (zb v_16) = 0 then (some (false, h)) else (zgu (zin (2 + v_4) 107) <| if (h.1 (zR t0 44) (zx (2 + v_4))) = 0 then (some (false, h)) else ((g_X12_casts h t0 v_4 v_6).bind fun v_20 => some (true, v_20)))) else (if v_2 = 3 then ((g_X12_isAlive h t0 v_4).bind fun v_13 => if (zb v_13) = 0 then (some (false, h)) else ((g_X12_dies h t0 v_4).bind fun v_15 => some (true, v_15.2))) else (zgu (zin 1 8) <| (g_X12_passes h t0 (h.1 (zR t0 10) (zx 1))).bind fun v_12 => some (true, v_12.2)))))
set_option maxRecDepth 100000 in
set_option maxHeartbeats 4000000 in
theorem b_X12_goes {K : zK} {G : zG} (hK : zC K G cX12_goes RX12 5 5 116 (some .boolean)) {h : zH} {t0 : Nat} {x1 : Int32} (ht0 : zT t0 = (11, 0)) {r : Bool × zH} (hE : zE K G (some (.int (zb r.1))) r.2) (hg : g_X12_goes h t0 x1 = some r) : zW K G 5 0 [(0, .ref (G.2.2.2 t0)), (1, .int x1)] [] h := by
  rw [g_X12_goes] at hg
  obtain ⟨c_1, hg⟩ := zgu_some hg
  obtain ⟨v_2, ev_2, hg⟩ := zlet_some hg
  obtain ⟨c_3, hg⟩ := zgu_some hg
  obtain ⟨v_4, ev_4, hg⟩ := zlet_some hg
  obtain ⟨c_5, hg⟩ := zgu_some hg
  obtain ⟨v_6, ev_6, hg⟩ := zlet_some hg
  refine z_aload_n (pc := 0) hK 0 dX12_goes_0 rfl (z_getR (pc := 1) hK f_X12_87_11 ht0 dX12_goes_1 (z_iload_n (pc := 4) hK 1 dX12_goes_4 rfl (z_iald (pc := 5) hK (zt_11_38 ht0) c_1 dX12_goes_5 (z_nameI ev_2 (z_istore_n (pc := 6) hK (lv' := [(2, .int v_2), (0, .ref (G.2.2.2 t0)), (1, .int x1)]) dX12_goes_6 (by decide) rfl (z_aload_n (pc := 7) hK 1 dX12_goes_7 rfl (z_getR (pc := 8) hK f_X12_90_11 ht0 dX12_goes_8 (z_iload_n (pc := 11) hK 2 dX12_goes_11 rfl (z_iald (pc := 12) hK (zt_11_39 ht0) c_3 dX12_goes_12 (z_nameI ev_4 (z_istore_n (pc := 13) hK (lv' := [(3, .int v_4), (2, .int v_2), (0, .ref (G.2.2.2 t0)), (1, .int x1)]) dX12_goes_13 (by decide) rfl (z_aload_n (pc := 14) hK 2 dX12_goes_14 rfl (z_getR (pc := 15) hK f_X12_93_11 ht0 dX12_goes_15 (z_iload_n (pc := 18) hK 3 dX12_goes_18 rfl (z_iald (pc := 19) hK (zt_11_40 ht0) c_5 dX12_goes_19 (z_nameI ev_6 (z_istore (pc := 20) hK (lv' := [(4, .int v_6), (3, .int v_4), (2, .int v_2), (0, .ref (G.2.2.2 t0)), (1, .int x1)]) dX12_goes_20 (by decide) rfl (z_iload_n (pc := 22) hK 2 dX12_goes_22 rfl (z_if_ne (pc := 23) hK 51 dX12_goes_23 (by decide) (fun c_7 => ?_) (fun c_7 => ?_))))))))))))))))))))
  · rw [if_neg c_7] at hg
    refine z_iload_n (pc := 51) hK 2 dX12_goes_51 rfl (z_iconst (pc := 52) hK dX12_goes_52 zc_i1 (z_icmp_ne (pc := 53) hK 79 dX12_goes_53 (by decide) (fun c_8 => ?_) (fun c_8 => ?_)))
    · rw [if_neg c_8] at hg
      refine z_iload_n (pc := 79) hK 2 dX12_goes_79 rfl (z_iconst (pc := 80) hK dX12_goes_80 zc_i2 (z_icmp_ne (pc := 81) hK 117 dX12_goes_81 (by decide) (fun c_9 => ?_) (fun c_9 => ?_)))
      · rw [if_neg c_9] at hg
        refine z_iload_n (pc := 117) hK 2 dX12_goes_117 rfl (z_iconst (pc := 118) hK dX12_goes_118 zc_i3 (z_icmp_ne (pc := 119) hK 141 dX12_goes_119 (by decide) (fun c_10 => ?_) (fun c_10 => ?_)))
        · rw [if_neg c_10] at hg
          obtain ⟨c_11, hg⟩ := zgu_some hg
          obtain ⟨v_12, qv_12, hg⟩ := zbind_some hg
          exact z_aload_n (pc := 141) hK 3 dX12_goes_141 rfl (z_aload_n (pc := 142) hK 3 dX12_goes_142 rfl (z_getR (pc := 143) hK f_X12_13_11 ht0 dX12_goes_143 (z_iconst (pc := 146) hK dX12_goes_146 zc_i1 (z_iald (pc := 147) hK (zt_11_10 ht0) c_11 dX12_goes_147 (z_callVi (pc := 148) hK [.int (h.1 (zR t0 10) (zx 1))] (m_X12_passes (zC_D hK) ht0 qv_12) sv_X12_passes q_1740 ht0 rfl [] rfl (Nat.le_of_ble_eq_true rfl) ⟨by decide, by decide⟩ dX12_goes_148 (z_pop (pc := 151) hK dX12_goes_151 rfl (z_iconst (pc := 152) hK dX12_goes_152 zc_i1 (z_zretE (pc := 153) hK rfl hE hg dX12_goes_153))))))))
        · rw [if_pos c_10] at hg
          obtain ⟨v_13, qv_13, hg⟩ := zbind_some hg
          refine z_aload_n (pc := 122) hK 3 dX12_goes_122 rfl (z_iload_n (pc := 123) hK 1 dX12_goes_123 rfl (z_callVi (pc := 124) hK [.int v_4] (m_X12_isAlive (zC_D hK) ht0 qv_13) sv_X12_isAlive q_1628 ht0 rfl [] rfl (Nat.le_of_ble_eq_true rfl) ⟨by decide, by decide⟩ dX12_goes_124 (z_if_ne (pc := 127) hK 132 dX12_goes_127 (by decide) (fun c_14 => ?_) (fun c_14 => ?_))))
          · rw [if_neg c_14] at hg
            obtain ⟨v_15, qv_15, hg⟩ := zbind_some hg
            exact z_aload_n (pc := 132) hK 3 dX12_goes_132 rfl (z_iload_n (pc := 133) hK 1 dX12_goes_133 rfl (z_callVi (pc := 134) hK [.int v_4] (m_X12_dies (zC_D hK) ht0 qv_15) sv_X12_dies q_1732 ht0 rfl [] rfl (Nat.le_of_ble_eq_true rfl) ⟨by decide, by decide⟩ dX12_goes_134 (z_pop (pc := 137) hK dX12_goes_137 rfl (z_goto (pc := 138) hK 152 dX12_goes_138 (by decide) (z_iconst (pc := 152) hK dX12_goes_152 zc_i1 (z_zretE (pc := 153) hK rfl hE hg dX12_goes_153))))))
          · rw [if_pos c_14] at hg
            exact z_iconst (pc := 130) hK dX12_goes_130 zc_i0 (z_zretE (pc := 131) hK rfl hE hg dX12_goes_131)
      · rw [if_pos c_9] at hg
        obtain ⟨v_16, qv_16, hg⟩ := zbind_some hg
        refine z_aload_n (pc := 84) hK 3 dX12_goes_84 rfl (z_iload_n (pc := 85) hK 1 dX12_goes_85 rfl (z_iload (pc := 86) hK 0 dX12_goes_86 rfl (z_callVi (pc := 88) hK [.int v_4, .int v_6] (m_X12_areAlive (zC_D hK) ht0 qv_16) sv_X12_areAlive q_1711 ht0 rfl [] rfl (Nat.le_of_ble_eq_true rfl) ⟨by decide, by decide⟩ dX12_goes_88 (z_if_eq (pc := 91) hK 105 dX12_goes_91 (by decide) (fun c_17 => ?_) (fun c_17 => ?_)))))
        · rw [if_pos c_17] at hg
          exact z_iconst (pc := 105) hK dX12_goes_105 zc_i0 (z_zretE (pc := 106) hK rfl hE hg dX12_goes_106)
        · rw [if_neg c_17] at hg
          obtain ⟨c_18, hg⟩ := zgu_some hg
          refine z_aload_n (pc := 94) hK 3 dX12_goes_94 rfl (z_getR (pc := 95) hK f_X12_105_11 ht0 dX12_goes_95 (z_iconst (pc := 98) hK dX12_goes_98 zc_i2 (z_iload_n (pc := 99) hK 1 dX12_goes_99 rfl (z_iadd (pc := 100) hK dX12_goes_100 (z_iald (pc := 101) hK (zt_11_44 ht0) c_18 dX12_goes_101 (z_if_ne (pc := 102) hK 107 dX12_goes_102 (by decide) (fun c_19 => ?_) (fun c_19 => ?_)))))))
          · rw [if_neg c_19] at hg
            obtain ⟨v_20, qv_20, hg⟩ := zbind_some hg
            exact z_aload_n (pc := 107) hK 3 dX12_goes_107 rfl (z_iload_n (pc := 108) hK 1 dX12_goes_108 rfl (z_iload (pc := 109) hK 0 dX12_goes_109 rfl (z_callVv (pc := 111) hK [.int v_4, .int v_6] (m_X12_casts (zC_D hK) ht0 qv_20) sv_X12_casts q_1724 ht0 rfl [] rfl (Nat.le_of_ble_eq_true rfl) ⟨by decide, by decide⟩ dX12_goes_111 (z_goto (pc := 114) hK 152 dX12_goes_114 (by decide) (z_iconst (pc := 152) hK dX12_goes_152 zc_i1 (z_zretE (pc := 153) hK rfl hE hg dX12_goes_153))))))
          · rw [if_pos c_19] at hg
            exact z_iconst (pc := 105) hK dX12_goes_105 zc_i0 (z_zretE (pc := 106) hK rfl hE hg dX12_goes_106)
    · rw [if_pos c_8] at hg
      obtain ⟨v_21, qv_21, hg⟩ := zbind_some hg
      refine z_aload_n (pc := 56) hK 3 dX12_goes_56 rfl (z_iload_n (pc := 57) hK 1 dX12_goes_57 rfl (z_iload (pc := 58) hK 0 dX12_goes_58 rfl (z_callVi (pc := 60) hK [.int v_4, .int v_6] (m_X12_areAlive (zC_D hK) ht0 qv_21) sv_X12_areAlive q_1711 ht0 rfl [] rfl (Nat.le_of_ble_eq_true rfl) ⟨by decide, by decide⟩ dX12_goes_60 (z_if_ne (pc := 63) hK 68 dX12_goes_63 (by decide) (fun c_22 => ?_) (fun c_22 => ?_)))))
      · rw [if_neg c_22] at hg
        obtain ⟨v_23, qv_23, hg⟩ := zbind_some hg
        exact z_aload_n (pc := 68) hK 3 dX12_goes_68 rfl (z_iload_n (pc := 69) hK 1 dX12_goes_69 rfl (z_iload (pc := 70) hK 0 dX12_goes_70 rfl (z_callVi (pc := 72) hK [.int v_4, .int v_6] (m_X12_gives (zC_D hK) ht0 qv_23) sv_X12_gives q_1715 ht0 rfl [] rfl (Nat.le_of_ble_eq_true rfl) ⟨by decide, by decide⟩ dX12_goes_72 (z_pop (pc := 75) hK dX12_goes_75 rfl (z_goto (pc := 76) hK 152 dX12_goes_76 (by decide) (z_iconst (pc := 152) hK dX12_goes_152 zc_i1 (z_zretE (pc := 153) hK rfl hE hg dX12_goes_153)))))))
      · rw [if_pos c_22] at hg
        exact z_iconst (pc := 66) hK dX12_goes_66 zc_i0 (z_zretE (pc := 67) hK rfl hE hg dX12_goes_67)
  · rw [if_pos c_7] at hg
    obtain ⟨v_24, qv_24, hg⟩ := zbind_some hg
    obtain ⟨v_25, qv_25, hg⟩ := zbind_some hg
    refine z_aload_n (pc := 26) hK 3 dX12_goes_26 rfl (z_aload_n (pc := 27) hK 3 dX12_goes_27 rfl (z_callVi (pc := 28) hK [] (m_X12_governor (zC_D hK) ht0 qv_24) sv_X12_governor q_1652 ht0 rfl [.ref (G.2.2.2 t0)] rfl (Nat.le_of_ble_eq_true rfl) ⟨by decide, by decide⟩ dX12_goes_28 (z_callVi (pc := 31) hK [.int v_24] (m_X12_canTax (zC_D hK) ht0 qv_25) sv_X12_canTax q_1668 ht0 rfl [] rfl (Nat.le_of_ble_eq_true rfl) ⟨by decide, by decide⟩ dX12_goes_31 (z_if_ne (pc := 34) hK 39 dX12_goes_34 (by decide) (fun c_26 => ?_) (fun c_26 => ?_)))))
    · rw [if_neg c_26] at hg
      obtain ⟨v_27, qv_27, hg⟩ := zbind_some hg
      obtain ⟨v_28, qv_28, hg⟩ := zbind_some hg
      exact z_aload_n (pc := 39) hK 3 dX12_goes_39 rfl (z_aload_n (pc := 40) hK 3 dX12_goes_40 rfl (z_callVi (pc := 41) hK [] (m_X12_governor (zC_D hK) ht0 qv_27) sv_X12_governor q_1652 ht0 rfl [.ref (G.2.2.2 t0)] rfl (Nat.le_of_ble_eq_true rfl) ⟨by decide, by decide⟩ dX12_goes_41 (z_callVi (pc := 44) hK [.int v_27] (m_X12_taxes (zC_D hK) ht0 qv_28) sv_X12_taxes q_1679 ht0 rfl [] rfl (Nat.le_of_ble_eq_true rfl) ⟨by decide, by decide⟩ dX12_goes_44 (z_pop (pc := 47) hK dX12_goes_47 rfl (z_goto (pc := 48) hK 152 dX12_goes_48 (by decide) (z_iconst (pc := 152) hK dX12_goes_152 zc_i1 (z_zretE (pc := 153) hK rfl hE hg dX12_goes_153)))))))
    · rw [if_pos c_26] at hg
      exact z_iconst (pc := 37) hK dX12_goes_37 zc_i0 (z_zretE (pc := 38) hK rfl hE hg dX12_goes_38)
theorem m_X12_goes {l : Launch} {G : zG} (hG : zD G) {h : zH} {t0 : Nat} {x1 : Int32} (ht0 : zT t0 = (11, 0)) {r : Bool × zH} (hg : g_X12_goes h t0 x1 = some r) : zM l G yX12_goes cX12_goes 5 (some .boolean) 5 116 [.ref (G.2.2.2 t0), .int x1] h (some (.int (zb r.1))) r.2 :=
  zM_of hG pn_X12 (Nat.le_of_ble_eq_true rfl) (fun K _ hK hE => b_X12_goes hK ht0 hE hg)
theorem dX12_judged_0 : decode cX12_judged 0 = .ok (.aload_n 0, 1) := by decide +kernel
theorem dX12_judged_1 : decode cX12_judged 1 = .ok (.iconst 0, 1) := by decide +kernel
theorem dX12_judged_2 : decode cX12_judged 2 = .ok (.putfield 126, 3) := by decide +kernel
theorem dX12_judged_5 : decode cX12_judged 5 = .ok (.iload_n 1, 1) := by decide +kernel
theorem dX12_judged_6 : decode cX12_judged 6 = .ok (.iconst 0, 1) := by decide +kernel
theorem dX12_judged_7 : decode cX12_judged 7 = .ok (.iconst 2, 1) := by decide +kernel
theorem dX12_judged_8 : decode cX12_judged 8 = .ok (.invokestatic 259, 3) := by decide +kernel
theorem dX12_judged_11 : decode cX12_judged 11 = .ok (.ifCond .ne 6, 3) := by decide +kernel
theorem dX12_judged_14 : decode cX12_judged 14 = .ok (.bipush (-2), 2) := by decide +kernel
theorem dX12_judged_16 : decode cX12_judged 16 = .ok (.ireturn, 1) := by decide +kernel
theorem dX12_judged_17 : decode cX12_judged 17 = .ok (.aload_n 0, 1) := by decide +kernel
theorem dX12_judged_18 : decode cX12_judged 18 = .ok (.getfield 105, 3) := by decide +kernel
theorem dX12_judged_21 : decode cX12_judged 21 = .ok (.iconst 0, 1) := by decide +kernel
theorem dX12_judged_22 : decode cX12_judged 22 = .ok (.aload_n 0, 1) := by decide +kernel
theorem dX12_judged_23 : decode cX12_judged 23 = .ok (.getfield 108, 3) := by decide +kernel
theorem dX12_judged_26 : decode cX12_judged 26 = .ok (.iconst 0, 1) := by decide +kernel
theorem dX12_judged_27 : decode cX12_judged 27 = .ok (.invokestatic 409, 3) := by decide +kernel
theorem dX12_judged_30 : decode cX12_judged 30 = .ok (.aload_n 0, 1) := by decide +kernel
theorem dX12_judged_31 : decode cX12_judged 31 = .ok (.invokevirtual 123, 3) := by decide +kernel
theorem dX12_judged_34 : decode cX12_judged 34 = .ok (.iconst (-1), 1) := by decide +kernel
theorem dX12_judged_35 : decode cX12_judged 35 = .ok (.istore_n 2, 1) := by decide +kernel
theorem dX12_judged_36 : decode cX12_judged 36 = .ok (.iconst (-1), 1) := by decide +kernel
theorem dX12_judged_37 : decode cX12_judged 37 = .ok (.istore_n 3, 1) := by decide +kernel
theorem dX12_judged_38 : decode cX12_judged 38 = .ok (.iconst 0, 1) := by decide +kernel
theorem dX12_judged_39 : decode cX12_judged 39 = .ok (.istore 4, 2) := by decide +kernel
theorem dX12_judged_41 : decode cX12_judged 41 = .ok (.iload 4, 2) := by decide +kernel
theorem dX12_judged_43 : decode cX12_judged 43 = .ok (.aload_n 0, 1) := by decide +kernel
theorem dX12_judged_44 : decode cX12_judged 44 = .ok (.getfield 84, 3) := by decide +kernel
theorem dX12_judged_47 : decode cX12_judged 47 = .ok (.iconst 0, 1) := by decide +kernel
theorem dX12_judged_48 : decode cX12_judged 48 = .ok (.iaload, 1) := by decide +kernel
theorem dX12_judged_49 : decode cX12_judged 49 = .ok (.if_icmp .ge 47, 3) := by decide +kernel
theorem dX12_judged_52 : decode cX12_judged 52 = .ok (.aload_n 0, 1) := by decide +kernel
theorem dX12_judged_53 : decode cX12_judged 53 = .ok (.invokevirtual 379, 3) := by decide +kernel
theorem dX12_judged_56 : decode cX12_judged 56 = .ok (.istore 5, 2) := by decide +kernel
theorem dX12_judged_58 : decode cX12_judged 58 = .ok (.aload_n 0, 1) := by decide +kernel
theorem dX12_judged_59 : decode cX12_judged 59 = .ok (.iload 4, 2) := by decide +kernel
theorem dX12_judged_61 : decode cX12_judged 61 = .ok (.invokevirtual 428, 3) := by decide +kernel
theorem dX12_judged_64 : decode cX12_judged 64 = .ok (.ifCond .ne 10, 3) := by decide +kernel
theorem dX12_judged_67 : decode cX12_judged 67 = .ok (.iload_n 2, 1) := by decide +kernel
theorem dX12_judged_68 : decode cX12_judged 68 = .ok (.ifCond .ge 6, 3) := by decide +kernel
theorem dX12_judged_71 : decode cX12_judged 71 = .ok (.iload 4, 2) := by decide +kernel
theorem dX12_judged_73 : decode cX12_judged 73 = .ok (.istore_n 2, 1) := by decide +kernel
theorem dX12_judged_74 : decode cX12_judged 74 = .ok (.iload_n 3, 1) := by decide +kernel
theorem dX12_judged_75 : decode cX12_judged 75 = .ok (.ifCond .ge 15, 3) := by decide +kernel
theorem dX12_judged_78 : decode cX12_judged 78 = .ok (.aload_n 0, 1) := by decide +kernel
theorem dX12_judged_79 : decode cX12_judged 79 = .ok (.invokevirtual 379, 3) := by decide +kernel
theorem dX12_judged_82 : decode cX12_judged 82 = .ok (.iload 5, 2) := by decide +kernel
theorem dX12_judged_84 : decode cX12_judged 84 = .ok (.if_icmp .eq 6, 3) := by decide +kernel
theorem dX12_judged_87 : decode cX12_judged 87 = .ok (.iload 4, 2) := by decide +kernel
theorem dX12_judged_89 : decode cX12_judged 89 = .ok (.istore_n 3, 1) := by decide +kernel
theorem dX12_judged_90 : decode cX12_judged 90 = .ok (.iinc 4 1, 3) := by decide +kernel
theorem dX12_judged_93 : decode cX12_judged 93 = .ok (.goto (-52), 3) := by decide +kernel
theorem dX12_judged_96 : decode cX12_judged 96 = .ok (.aload_n 0, 1) := by decide +kernel
theorem dX12_judged_97 : decode cX12_judged 97 = .ok (.invokevirtual 379, 3) := by decide +kernel
theorem dX12_judged_100 : decode cX12_judged 100 = .ok (.istore 4, 2) := by decide +kernel
theorem dX12_judged_102 : decode cX12_judged 102 = .ok (.aload_n 0, 1) := by decide +kernel
theorem dX12_judged_103 : decode cX12_judged 103 = .ok (.getfield 108, 3) := by decide +kernel
theorem dX12_judged_106 : decode cX12_judged 106 = .ok (.iconst 0, 1) := by decide +kernel
theorem dX12_judged_107 : decode cX12_judged 107 = .ok (.aload_n 0, 1) := by decide +kernel
theorem dX12_judged_108 : decode cX12_judged 108 = .ok (.getfield 105, 3) := by decide +kernel
theorem dX12_judged_111 : decode cX12_judged 111 = .ok (.iconst 0, 1) := by decide +kernel
theorem dX12_judged_112 : decode cX12_judged 112 = .ok (.invokestatic 409, 3) := by decide +kernel
theorem dX12_judged_115 : decode cX12_judged 115 = .ok (.iload_n 1, 1) := by decide +kernel
theorem dX12_judged_116 : decode cX12_judged 116 = .ok (.ifCond .ne 7, 3) := by decide +kernel
theorem dX12_judged_119 : decode cX12_judged 119 = .ok (.iload_n 2, 1) := by decide +kernel
theorem dX12_judged_120 : decode cX12_judged 120 = .ok (.goto 14, 3) := by decide +kernel
theorem dX12_judged_123 : decode cX12_judged 123 = .ok (.iload_n 1, 1) := by decide +kernel
theorem dX12_judged_124 : decode cX12_judged 124 = .ok (.iconst 1, 1) := by decide +kernel
theorem dX12_judged_125 : decode cX12_judged 125 = .ok (.if_icmp .ne 7, 3) := by decide +kernel
theorem dX12_judged_128 : decode cX12_judged 128 = .ok (.iload_n 3, 1) := by decide +kernel
theorem dX12_judged_129 : decode cX12_judged 129 = .ok (.goto 5, 3) := by decide +kernel
theorem dX12_judged_132 : decode cX12_judged 132 = .ok (.iload 4, 2) := by decide +kernel
theorem dX12_judged_134 : decode cX12_judged 134 = .ok (.ireturn, 1) := by decide +kernel
def g_X12_judged_74 (t0 : Nat) (k41 : Int32 → Int32 → Int32 → Int32 → zH → Option (Int32 × zH)) (x1 : Int32) (x2 : Int32) (x3 : Int32) (x4 : Int32) (x5 : Int32) (h : zH) : Option (Int32 × zH) := if 0 ≤ x3 then (k41 x1 x2 x3 (x4 + 1) h) else ((g_X12_governor h t0).bind fun v_17 => if v_17 = x5 then (k41 x1 x2 x3 (x4 + 1) h) else (k41 x1 x2 x4 (x4 + 1) h))
def g_X12_judged_41 (t0 : Nat)  : Nat → Int32 → Int32 → Int32 → Int32 → zH → Option (Int32 × zH)
  | 0, _, _, _, _, _ => none
  | n + 1, x1, x2, x3, x4, h => zgu (zin 0 6) <| if (h.1 (zR t0 37) (zx 0)) ≤ x4 then ((g_X12_governor h t0).bind fun v_8 => (g_X12_copies h (zR t0 45) 107 0 (zR t0 44) 107 0).bind fun v_9 => if x1 = 0 then (some (x2, v_9)) else (if x1 = 1 then (some (x3, v_9)) else (some (v_8, v_9)))) else ((g_X12_governor h t0).bind fun v_12 => (g_X12_goes h t0 x4).bind fun v_13 => if (zb v_13.1) = 0 then (if 0 ≤ x2 then (g_X12_judged_74 t0 (g_X12_judged_41 t0 n) x1 x2 x3 x4 v_12 v_13.2) else (g_X12_judged_74 t0 (g_X12_judged_41 t0 n) x1 x4 x3 x4 v_12 v_13.2)) else (g_X12_judged_74 t0 (g_X12_judged_41 t0 n) x1 x2 x3 x4 v_12 v_13.2))
def g_X12_judged (h : zH) (t0 : Nat) (x1 : Int32) : Option (Int32 × zH) := zlet (zpi h t0 0 0) fun h_1 => (g_X12_within h_1 x1 0 2).bind fun v_2 => if (zb v_2) = 0 then (some ((-2), h_1)) else ((g_X12_copies h_1 (zR t0 44) 107 0 (zR t0 45) 107 0).bind fun v_4 => (g_X12_fresh v_4 t0).bind fun v_5 => g_X12_judged_41 t0 zfu x1 (-1) (-1) 0 v_5)
set_option maxRecDepth 100000 in
set_option maxHeartbeats 4000000 in
theorem b_X12_judged_74 {K : zK} {G : zG} (hK : zC K G cX12_judged RX12 6 6 140 (some .int)) {t0 : Nat} (ht0 : zT t0 = (11, 0)) {r : Int32 × zH} (hE : zE K G (some (.int r.1)) r.2) {k41 : Int32 → Int32 → Int32 → Int32 → zH → Option (Int32 × zH)} (hk41 : ∀ (x1 : Int32) (x2 : Int32) (x3 : Int32) (x4 : Int32) (h : zH), k41 x1 x2 x3 x4 h = some r → zW K G 6 41 [(0, .ref (G.2.2.2 t0)), (1, .int x1), (2, .int x2), (3, .int x3), (4, .int x4)] [] h) (x1 : Int32) (x2 : Int32) (x3 : Int32) (x4 : Int32) (x5 : Int32) (h : zH) (hg : g_X12_judged_74 t0 k41 x1 x2 x3 x4 x5 h = some r) : zW K G 6 74 [(0, .ref (G.2.2.2 t0)), (1, .int x1), (2, .int x2), (3, .int x3), (4, .int x4), (5, .int x5)] [] h := by
  rw [g_X12_judged_74] at hg
  refine z_iload_n (pc := 74) hK 3 dX12_judged_74 rfl (z_if_ge (pc := 75) hK 90 dX12_judged_75 (by decide) (fun c_16 => ?_) (fun c_16 => ?_))
  · rw [if_pos c_16] at hg
    exact z_iinc (pc := 90) hK 4 (lv' := [(4, .int (x4 + 1)), (0, .ref (G.2.2.2 t0)), (1, .int x1), (2, .int x2), (3, .int x3), (5, .int x5)]) dX12_judged_90 rfl (zc_n1 _) (by decide) rfl (z_goto (pc := 93) hK 41 dX12_judged_93 (by decide) (zsub (lv' := [(0, .ref (G.2.2.2 t0)), (1, .int x1), (2, .int x2), (3, .int x3), (4, .int (x4 + 1))]) [1, 2, 3, 4, 0] rfl (hk41 x1 x2 x3 (x4 + 1) h hg)))
  · rw [if_neg c_16] at hg
    obtain ⟨v_17, qv_17, hg⟩ := zbind_some hg
    refine z_aload_n (pc := 78) hK 0 dX12_judged_78 rfl (z_callVi (pc := 79) hK [] (m_X12_governor (zC_D hK) ht0 qv_17) sv_X12_governor q_1652 ht0 rfl [] rfl (Nat.le_of_ble_eq_true rfl) ⟨by decide, by decide⟩ dX12_judged_79 (z_iload (pc := 82) hK 5 dX12_judged_82 rfl (z_icmp_eq (pc := 84) hK 90 dX12_judged_84 (by decide) (fun c_18 => ?_) (fun c_18 => ?_))))
    · rw [if_pos c_18] at hg
      exact z_iinc (pc := 90) hK 4 (lv' := [(4, .int (x4 + 1)), (0, .ref (G.2.2.2 t0)), (1, .int x1), (2, .int x2), (3, .int x3), (5, .int x5)]) dX12_judged_90 rfl (zc_n1 _) (by decide) rfl (z_goto (pc := 93) hK 41 dX12_judged_93 (by decide) (zsub (lv' := [(0, .ref (G.2.2.2 t0)), (1, .int x1), (2, .int x2), (3, .int x3), (4, .int (x4 + 1))]) [1, 2, 3, 4, 0] rfl (hk41 x1 x2 x3 (x4 + 1) h hg)))
    · rw [if_neg c_18] at hg
      exact z_iload (pc := 87) hK 4 dX12_judged_87 rfl (z_istore_n (pc := 89) hK (lv' := [(3, .int x4), (0, .ref (G.2.2.2 t0)), (1, .int x1), (2, .int x2), (4, .int x4), (5, .int x5)]) dX12_judged_89 (by decide) rfl (z_iinc (pc := 90) hK 4 (lv' := [(4, .int (x4 + 1)), (3, .int x4), (0, .ref (G.2.2.2 t0)), (1, .int x1), (2, .int x2), (5, .int x5)]) dX12_judged_90 rfl (zc_n1 _) (by decide) rfl (z_goto (pc := 93) hK 41 dX12_judged_93 (by decide) (zsub (lv' := [(0, .ref (G.2.2.2 t0)), (1, .int x1), (2, .int x2), (3, .int x4), (4, .int (x4 + 1))]) [2, 3, 4, 1, 0] rfl (hk41 x1 x2 x4 (x4 + 1) h hg)))))
set_option maxRecDepth 100000 in
set_option maxHeartbeats 4000000 in
theorem b_X12_judged_41 {K : zK} {G : zG} (hK : zC K G cX12_judged RX12 6 6 140 (some .int)) {t0 : Nat} (ht0 : zT t0 = (11, 0)) {r : Int32 × zH} (hE : zE K G (some (.int r.1)) r.2) : ∀ (n : Nat) (x1 : Int32) (x2 : Int32) (x3 : Int32) (x4 : Int32) (h : zH), g_X12_judged_41 t0 n x1 x2 x3 x4 h = some r → zW K G 6 41 [(0, .ref (G.2.2.2 t0)), (1, .int x1), (2, .int x2), (3, .int x3), (4, .int x4)] [] h := by
  intro n
  induction n with
  | zero => intro x1 x2 x3 x4 h hg; exact nomatch (show none = some r from hg)
  | succ n ih =>
    intro x1 x2 x3 x4 h hg
    rw [g_X12_judged_41] at hg
    obtain ⟨c_6, hg⟩ := zgu_some hg
    refine z_iload (pc := 41) hK 4 dX12_judged_41 rfl (z_aload_n (pc := 43) hK 0 dX12_judged_43 rfl (z_getR (pc := 44) hK f_X12_84_11 ht0 dX12_judged_44 (z_iconst (pc := 47) hK dX12_judged_47 zc_i0 (z_iald (pc := 48) hK (zt_11_37 ht0) c_6 dX12_judged_48 (z_icmp_ge (pc := 49) hK 96 dX12_judged_49 (by decide) (fun c_7 => ?_) (fun c_7 => ?_))))))
    · rw [if_pos c_7] at hg
      obtain ⟨v_8, qv_8, hg⟩ := zbind_some hg
      obtain ⟨v_9, qv_9, hg⟩ := zbind_some hg
      refine z_aload_n (pc := 96) hK 0 dX12_judged_96 rfl (z_callVi (pc := 97) hK [] (m_X12_governor (zC_D hK) ht0 qv_8) sv_X12_governor q_1652 ht0 rfl [] rfl (Nat.le_of_ble_eq_true rfl) ⟨by decide, by decide⟩ dX12_judged_97 (z_istore (pc := 100) hK (lv' := [(4, .int v_8), (0, .ref (G.2.2.2 t0)), (1, .int x1), (2, .int x2), (3, .int x3)]) dX12_judged_100 (by decide) rfl (z_aload_n (pc := 102) hK 1 dX12_judged_102 rfl (z_getR (pc := 103) hK f_X12_108_11 ht0 dX12_judged_103 (z_iconst (pc := 106) hK dX12_judged_106 zc_i0 (z_aload_n (pc := 107) hK 1 dX12_judged_107 rfl (z_getR (pc := 108) hK f_X12_105_11 ht0 dX12_judged_108 (z_iconst (pc := 111) hK dX12_judged_111 zc_i0 (z_callSv (pc := 112) hK [.ref (G.2.2.2 (zR t0 45)), .int 0, .ref (G.2.2.2 (zR t0 44)), .int 0] (m_X12_copies (zC_D hK) (zt_11_45 ht0) (zt_11_44 ht0) qv_9) ss_X12_copies q_1676 rfl [] rfl (Nat.le_of_ble_eq_true rfl) ⟨by decide, by decide⟩ dX12_judged_112 (z_iload_n (pc := 115) hK 2 dX12_judged_115 rfl (z_if_ne (pc := 116) hK 123 dX12_judged_116 (by decide) (fun c_10 => ?_) (fun c_10 => ?_))))))))))))
      · rw [if_neg c_10] at hg
        refine z_iload_n (pc := 123) hK 2 dX12_judged_123 rfl (z_iconst (pc := 124) hK dX12_judged_124 zc_i1 (z_icmp_ne (pc := 125) hK 132 dX12_judged_125 (by decide) (fun c_11 => ?_) (fun c_11 => ?_)))
        · rw [if_neg c_11] at hg
          exact z_iload (pc := 132) hK 0 dX12_judged_132 rfl (z_iretE (pc := 134) hK hE hg dX12_judged_134)
        · rw [if_pos c_11] at hg
          exact z_iload_n (pc := 128) hK 4 dX12_judged_128 rfl (z_goto (pc := 129) hK 134 dX12_judged_129 (by decide) (z_iretE (pc := 134) hK hE hg dX12_judged_134))
      · rw [if_pos c_10] at hg
        exact z_iload_n (pc := 119) hK 3 dX12_judged_119 rfl (z_goto (pc := 120) hK 134 dX12_judged_120 (by decide) (z_iretE (pc := 134) hK hE hg dX12_judged_134))
    · rw [if_neg c_7] at hg
      obtain ⟨v_12, qv_12, hg⟩ := zbind_some hg
      obtain ⟨v_13, qv_13, hg⟩ := zbind_some hg
      refine z_aload_n (pc := 52) hK 0 dX12_judged_52 rfl (z_callVi (pc := 53) hK [] (m_X12_governor (zC_D hK) ht0 qv_12) sv_X12_governor q_1652 ht0 rfl [] rfl (Nat.le_of_ble_eq_true rfl) ⟨by decide, by decide⟩ dX12_judged_53 (z_istore (pc := 56) hK (lv' := [(5, .int v_12), (0, .ref (G.2.2.2 t0)), (1, .int x1), (2, .int x2), (3, .int x3), (4, .int x4)]) dX12_judged_56 (by decide) rfl (z_aload_n (pc := 58) hK 1 dX12_judged_58 rfl (z_iload (pc := 59) hK 5 dX12_judged_59 rfl (z_callVi (pc := 61) hK [.int x4] (m_X12_goes (zC_D hK) ht0 qv_13) sv_X12_goes q_1768 ht0 rfl [] rfl (Nat.le_of_ble_eq_true rfl) ⟨by decide, by decide⟩ dX12_judged_61 (z_if_ne (pc := 64) hK 74 dX12_judged_64 (by decide) (fun c_14 => ?_) (fun c_14 => ?_)))))))
      · rw [if_neg c_14] at hg
        exact zsub (lv' := [(0, .ref (G.2.2.2 t0)), (1, .int x1), (2, .int x2), (3, .int x3), (4, .int x4), (5, .int v_12)]) [1, 2, 3, 4, 5, 0] rfl (b_X12_judged_74 hK ht0 hE ih x1 x2 x3 x4 v_12 v_13.2 hg)
      · rw [if_pos c_14] at hg
        refine z_iload_n (pc := 67) hK 3 dX12_judged_67 rfl (z_if_ge (pc := 68) hK 74 dX12_judged_68 (by decide) (fun c_15 => ?_) (fun c_15 => ?_))
        · rw [if_pos c_15] at hg
          exact zsub (lv' := [(0, .ref (G.2.2.2 t0)), (1, .int x1), (2, .int x2), (3, .int x3), (4, .int x4), (5, .int v_12)]) [1, 2, 3, 4, 5, 0] rfl (b_X12_judged_74 hK ht0 hE ih x1 x2 x3 x4 v_12 v_13.2 hg)
        · rw [if_neg c_15] at hg
          exact z_iload (pc := 71) hK 5 dX12_judged_71 rfl (z_istore_n (pc := 73) hK (lv' := [(2, .int x4), (5, .int v_12), (0, .ref (G.2.2.2 t0)), (1, .int x1), (3, .int x3), (4, .int x4)]) dX12_judged_73 (by decide) rfl (zsub (lv' := [(0, .ref (G.2.2.2 t0)), (1, .int x1), (2, .int x4), (3, .int x3), (4, .int x4), (5, .int v_12)]) [2, 3, 0, 4, 5, 1] rfl (b_X12_judged_74 hK ht0 hE ih x1 x4 x3 x4 v_12 v_13.2 hg)))
set_option maxRecDepth 100000 in
set_option maxHeartbeats 4000000 in
theorem b_X12_judged {K : zK} {G : zG} (hK : zC K G cX12_judged RX12 6 6 140 (some .int)) {h : zH} {t0 : Nat} {x1 : Int32} (ht0 : zT t0 = (11, 0)) {r : Int32 × zH} (hE : zE K G (some (.int r.1)) r.2) (hg : g_X12_judged h t0 x1 = some r) : zW K G 6 0 [(0, .ref (G.2.2.2 t0)), (1, .int x1)] [] h := by
  rw [g_X12_judged] at hg
  obtain ⟨h_1, eh_1, hg⟩ := zlet_some hg
  obtain ⟨v_2, qv_2, hg⟩ := zbind_some hg
  refine z_aload_n (pc := 0) hK 0 dX12_judged_0 rfl (z_iconst (pc := 1) hK dX12_judged_1 zc_i0 (z_putI (pc := 2) hK f_X12_126_11 fp_11_0 ht0 dX12_judged_2 (z_nameH eh_1 (z_iload_n (pc := 5) hK 1 dX12_judged_5 rfl (z_iconst (pc := 6) hK dX12_judged_6 zc_i0 (z_iconst (pc := 7) hK dX12_judged_7 zc_i2 (z_callSi (pc := 8) hK [.int x1, .int 0, .int 2] (m_X12_within (zC_D hK) qv_2) ss_X12_within q_1538 rfl [] rfl (Nat.le_of_ble_eq_true rfl) ⟨by decide, by decide⟩ dX12_judged_8 (z_if_ne (pc := 11) hK 17 dX12_judged_11 (by decide) (fun c_3 => ?_) (fun c_3 => ?_)))))))))
  · rw [if_neg c_3] at hg
    obtain ⟨v_4, qv_4, hg⟩ := zbind_some hg
    obtain ⟨v_5, qv_5, hg⟩ := zbind_some hg
    exact z_aload_n (pc := 17) hK 0 dX12_judged_17 rfl (z_getR (pc := 18) hK f_X12_105_11 ht0 dX12_judged_18 (z_iconst (pc := 21) hK dX12_judged_21 zc_i0 (z_aload_n (pc := 22) hK 0 dX12_judged_22 rfl (z_getR (pc := 23) hK f_X12_108_11 ht0 dX12_judged_23 (z_iconst (pc := 26) hK dX12_judged_26 zc_i0 (z_callSv (pc := 27) hK [.ref (G.2.2.2 (zR t0 44)), .int 0, .ref (G.2.2.2 (zR t0 45)), .int 0] (m_X12_copies (zC_D hK) (zt_11_44 ht0) (zt_11_45 ht0) qv_4) ss_X12_copies q_1676 rfl [] rfl (Nat.le_of_ble_eq_true rfl) ⟨by decide, by decide⟩ dX12_judged_27 (z_aload_n (pc := 30) hK 0 dX12_judged_30 rfl (z_callVv (pc := 31) hK [] (m_X12_fresh (zC_D hK) ht0 qv_5) sv_X12_fresh q_1291 ht0 rfl [] rfl (Nat.le_of_ble_eq_true rfl) ⟨by decide, by decide⟩ dX12_judged_31 (z_iconst (pc := 34) hK dX12_judged_34 zc_im1 (z_istore_n (pc := 35) hK (lv' := [(2, .int (-1)), (0, .ref (G.2.2.2 t0)), (1, .int x1)]) dX12_judged_35 (by decide) rfl (z_iconst (pc := 36) hK dX12_judged_36 zc_im1 (z_istore_n (pc := 37) hK (lv' := [(3, .int (-1)), (2, .int (-1)), (0, .ref (G.2.2.2 t0)), (1, .int x1)]) dX12_judged_37 (by decide) rfl (z_iconst (pc := 38) hK dX12_judged_38 zc_i0 (z_istore (pc := 39) hK (lv' := [(4, .int 0), (3, .int (-1)), (2, .int (-1)), (0, .ref (G.2.2.2 t0)), (1, .int x1)]) dX12_judged_39 (by decide) rfl (zsub (lv' := [(0, .ref (G.2.2.2 t0)), (1, .int x1), (2, .int (-1)), (3, .int (-1)), (4, .int 0)]) [3, 4, 2, 1, 0] rfl (b_X12_judged_41 hK ht0 hE zfu x1 (-1) (-1) 0 v_5 hg))))))))))))))))
  · rw [if_pos c_3] at hg
    exact z_bipush (pc := 14) hK dX12_judged_14 zc_bm2 (z_iretE (pc := 16) hK hE hg dX12_judged_16)
theorem m_X12_judged {l : Launch} {G : zG} (hG : zD G) {h : zH} {t0 : Nat} {x1 : Int32} (ht0 : zT t0 = (11, 0)) {r : Int32 × zH} (hg : g_X12_judged h t0 x1 = some r) : zM l G yX12_judged cX12_judged 6 (some .int) 6 140 [.ref (G.2.2.2 t0), .int x1] h (some (.int r.1)) r.2 :=
  zM_of hG pn_X12 (Nat.le_of_ble_eq_true rfl) (fun K _ hK hE => b_X12_judged hK ht0 hE hg)
