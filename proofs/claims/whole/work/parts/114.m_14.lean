theorem dX12_areAlive_0 : decode cX12_areAlive 0 = .ok (.aload_n 0, 1) := by decide +kernel
theorem dX12_areAlive_1 : decode cX12_areAlive 1 = .ok (.iload_n 1, 1) := by decide +kernel
theorem dX12_areAlive_2 : decode cX12_areAlive 2 = .ok (.iload_n 2, 1) := by decide +kernel
theorem dX12_areAlive_3 : decode cX12_areAlive 3 = .ok (.invokevirtual 347, 3) := by decide +kernel
theorem dX12_areAlive_6 : decode cX12_areAlive 6 = .ok (.ifCond .eq 23, 3) := by decide +kernel
theorem dX12_areAlive_9 : decode cX12_areAlive 9 = .ok (.aload_n 0, 1) := by decide +kernel
theorem dX12_areAlive_10 : decode cX12_areAlive 10 = .ok (.iload_n 1, 1) := by decide +kernel
theorem dX12_areAlive_11 : decode cX12_areAlive 11 = .ok (.invokevirtual 350, 3) := by decide +kernel
theorem dX12_areAlive_14 : decode cX12_areAlive 14 = .ok (.ifCond .eq 15, 3) := by decide +kernel
theorem dX12_areAlive_17 : decode cX12_areAlive 17 = .ok (.aload_n 0, 1) := by decide +kernel
theorem dX12_areAlive_18 : decode cX12_areAlive 18 = .ok (.iload_n 2, 1) := by decide +kernel
theorem dX12_areAlive_19 : decode cX12_areAlive 19 = .ok (.invokevirtual 350, 3) := by decide +kernel
theorem dX12_areAlive_22 : decode cX12_areAlive 22 = .ok (.ifCond .eq 7, 3) := by decide +kernel
theorem dX12_areAlive_25 : decode cX12_areAlive 25 = .ok (.iconst 1, 1) := by decide +kernel
theorem dX12_areAlive_26 : decode cX12_areAlive 26 = .ok (.goto 4, 3) := by decide +kernel
theorem dX12_areAlive_29 : decode cX12_areAlive 29 = .ok (.iconst 0, 1) := by decide +kernel
theorem dX12_areAlive_30 : decode cX12_areAlive 30 = .ok (.ireturn, 1) := by decide +kernel
def g_X12_areAlive (h : zH) (t0 : Nat) (x1 : Int32) (x2 : Int32) : Option Bool := (g_X12_areTwo h t0 x1 x2).bind fun v_1 => if (zb v_1) = 0 then (some false) else ((g_X12_isAlive h t0 x1).bind fun v_3 => if (zb v_3) = 0 then (some false) else ((g_X12_isAlive h t0 x2).bind fun v_5 => if (zb v_5) = 0 then (some false) else (some true)))
set_option maxRecDepth 100000 in
set_option maxHeartbeats 4000000 in
theorem b_X12_areAlive {K : zK} {G : zG} (hK : zC K G cX12_areAlive RX12 3 2 43 (some .boolean)) {h : zH} {t0 : Nat} {x1 : Int32} {x2 : Int32} (ht0 : zT t0 = (11, 0)) {r : Bool} (hE : zE K G (some (.int (zb r))) h) (hg : g_X12_areAlive h t0 x1 x2 = some r) : zW K G 3 0 [(0, .ref (G.2.2.2 t0)), (1, .int x1), (2, .int x2)] [] h := by
  rw [g_X12_areAlive] at hg
  obtain ⟨v_1, qv_1, hg⟩ := zbind_some hg
  refine z_aload_n (pc := 0) hK 0 dX12_areAlive_0 rfl (z_iload_n (pc := 1) hK 1 dX12_areAlive_1 rfl (z_iload_n (pc := 2) hK 2 dX12_areAlive_2 rfl (z_callVi (pc := 3) hK [.int x1, .int x2] (m_X12_areTwo (zC_D hK) ht0 qv_1) sv_X12_areTwo q_1640 ht0 rfl [] rfl (Nat.le_of_ble_eq_true rfl) ⟨by decide, by decide⟩ dX12_areAlive_3 (z_if_eq (pc := 6) hK 29 dX12_areAlive_6 (by decide) (fun c_2 => ?_) (fun c_2 => ?_)))))
  · rw [if_pos c_2] at hg
    exact z_iconst (pc := 29) hK dX12_areAlive_29 zc_i0 (z_zretP (pc := 30) hK rfl hE hg dX12_areAlive_30)
  · rw [if_neg c_2] at hg
    obtain ⟨v_3, qv_3, hg⟩ := zbind_some hg
    refine z_aload_n (pc := 9) hK 0 dX12_areAlive_9 rfl (z_iload_n (pc := 10) hK 1 dX12_areAlive_10 rfl (z_callVi (pc := 11) hK [.int x1] (m_X12_isAlive (zC_D hK) ht0 qv_3) sv_X12_isAlive q_1628 ht0 rfl [] rfl (Nat.le_of_ble_eq_true rfl) ⟨by decide, by decide⟩ dX12_areAlive_11 (z_if_eq (pc := 14) hK 29 dX12_areAlive_14 (by decide) (fun c_4 => ?_) (fun c_4 => ?_))))
    · rw [if_pos c_4] at hg
      exact z_iconst (pc := 29) hK dX12_areAlive_29 zc_i0 (z_zretP (pc := 30) hK rfl hE hg dX12_areAlive_30)
    · rw [if_neg c_4] at hg
      obtain ⟨v_5, qv_5, hg⟩ := zbind_some hg
      refine z_aload_n (pc := 17) hK 0 dX12_areAlive_17 rfl (z_iload_n (pc := 18) hK 2 dX12_areAlive_18 rfl (z_callVi (pc := 19) hK [.int x2] (m_X12_isAlive (zC_D hK) ht0 qv_5) sv_X12_isAlive q_1628 ht0 rfl [] rfl (Nat.le_of_ble_eq_true rfl) ⟨by decide, by decide⟩ dX12_areAlive_19 (z_if_eq (pc := 22) hK 29 dX12_areAlive_22 (by decide) (fun c_6 => ?_) (fun c_6 => ?_))))
      · rw [if_pos c_6] at hg
        exact z_iconst (pc := 29) hK dX12_areAlive_29 zc_i0 (z_zretP (pc := 30) hK rfl hE hg dX12_areAlive_30)
      · rw [if_neg c_6] at hg
        exact z_iconst (pc := 25) hK dX12_areAlive_25 zc_i1 (z_goto (pc := 26) hK 30 dX12_areAlive_26 (by decide) (z_zretP (pc := 30) hK rfl hE hg dX12_areAlive_30))
theorem m_X12_areAlive {l : Launch} {G : zG} (hG : zD G) {h : zH} {t0 : Nat} {x1 : Int32} {x2 : Int32} (ht0 : zT t0 = (11, 0)) {r : Bool} (hg : g_X12_areAlive h t0 x1 x2 = some r) : zM l G yX12_areAlive cX12_areAlive 3 (some .boolean) 2 43 [.ref (G.2.2.2 t0), .int x1, .int x2] h (some (.int (zb r))) h :=
  zM_of hG pn_X12 (Nat.le_of_ble_eq_true rfl) (fun K _ hK hE => b_X12_areAlive hK ht0 hE hg)
theorem dX12_countsAgainst_0 : decode cX12_countsAgainst 0 = .ok (.aload_n 0, 1) := by decide +kernel
theorem dX12_countsAgainst_1 : decode cX12_countsAgainst 1 = .ok (.getfield 120, 3) := by decide +kernel
theorem dX12_countsAgainst_4 : decode cX12_countsAgainst 4 = .ok (.iload_n 1, 1) := by decide +kernel
theorem dX12_countsAgainst_5 : decode cX12_countsAgainst 5 = .ok (.iaload, 1) := by decide +kernel
theorem dX12_countsAgainst_6 : decode cX12_countsAgainst 6 = .ok (.istore_n 2, 1) := by decide +kernel
theorem dX12_countsAgainst_7 : decode cX12_countsAgainst 7 = .ok (.iconst 0, 1) := by decide +kernel
theorem dX12_countsAgainst_8 : decode cX12_countsAgainst 8 = .ok (.istore_n 3, 1) := by decide +kernel
theorem dX12_countsAgainst_9 : decode cX12_countsAgainst 9 = .ok (.iload_n 3, 1) := by decide +kernel
theorem dX12_countsAgainst_10 : decode cX12_countsAgainst 10 = .ok (.aload_n 0, 1) := by decide +kernel
theorem dX12_countsAgainst_11 : decode cX12_countsAgainst 11 = .ok (.getfield 13, 3) := by decide +kernel
theorem dX12_countsAgainst_14 : decode cX12_countsAgainst 14 = .ok (.iconst 0, 1) := by decide +kernel
theorem dX12_countsAgainst_15 : decode cX12_countsAgainst 15 = .ok (.iaload, 1) := by decide +kernel
theorem dX12_countsAgainst_16 : decode cX12_countsAgainst 16 = .ok (.if_icmp .ge 47, 3) := by decide +kernel
theorem dX12_countsAgainst_19 : decode cX12_countsAgainst 19 = .ok (.iload_n 2, 1) := by decide +kernel
theorem dX12_countsAgainst_20 : decode cX12_countsAgainst 20 = .ok (.aload_n 0, 1) := by decide +kernel
theorem dX12_countsAgainst_21 : decode cX12_countsAgainst 21 = .ok (.iload_n 3, 1) := by decide +kernel
theorem dX12_countsAgainst_22 : decode cX12_countsAgainst 22 = .ok (.invokevirtual 350, 3) := by decide +kernel
theorem dX12_countsAgainst_25 : decode cX12_countsAgainst 25 = .ok (.ifCond .ne 12, 3) := by decide +kernel
theorem dX12_countsAgainst_28 : decode cX12_countsAgainst 28 = .ok (.aload_n 0, 1) := by decide +kernel
theorem dX12_countsAgainst_29 : decode cX12_countsAgainst 29 = .ok (.getfield 13, 3) := by decide +kernel
theorem dX12_countsAgainst_32 : decode cX12_countsAgainst 32 = .ok (.iconst 2, 1) := by decide +kernel
theorem dX12_countsAgainst_33 : decode cX12_countsAgainst 33 = .ok (.iaload, 1) := by decide +kernel
theorem dX12_countsAgainst_34 : decode cX12_countsAgainst 34 = .ok (.ifCond .ne 20, 3) := by decide +kernel
theorem dX12_countsAgainst_37 : decode cX12_countsAgainst 37 = .ok (.aload_n 0, 1) := by decide +kernel
theorem dX12_countsAgainst_38 : decode cX12_countsAgainst 38 = .ok (.getfield 105, 3) := by decide +kernel
theorem dX12_countsAgainst_41 : decode cX12_countsAgainst 41 = .ok (.bipush 58, 2) := by decide +kernel
theorem dX12_countsAgainst_43 : decode cX12_countsAgainst 43 = .ok (.bipush 7, 2) := by decide +kernel
theorem dX12_countsAgainst_45 : decode cX12_countsAgainst 45 = .ok (.iload_n 3, 1) := by decide +kernel
theorem dX12_countsAgainst_46 : decode cX12_countsAgainst 46 = .ok (.imul, 1) := by decide +kernel
theorem dX12_countsAgainst_47 : decode cX12_countsAgainst 47 = .ok (.iadd, 1) := by decide +kernel
theorem dX12_countsAgainst_48 : decode cX12_countsAgainst 48 = .ok (.iload_n 1, 1) := by decide +kernel
theorem dX12_countsAgainst_49 : decode cX12_countsAgainst 49 = .ok (.iadd, 1) := by decide +kernel
theorem dX12_countsAgainst_50 : decode cX12_countsAgainst 50 = .ok (.iaload, 1) := by decide +kernel
theorem dX12_countsAgainst_51 : decode cX12_countsAgainst 51 = .ok (.goto 4, 3) := by decide +kernel
theorem dX12_countsAgainst_54 : decode cX12_countsAgainst 54 = .ok (.iconst 0, 1) := by decide +kernel
theorem dX12_countsAgainst_55 : decode cX12_countsAgainst 55 = .ok (.iadd, 1) := by decide +kernel
theorem dX12_countsAgainst_56 : decode cX12_countsAgainst 56 = .ok (.istore_n 2, 1) := by decide +kernel
theorem dX12_countsAgainst_57 : decode cX12_countsAgainst 57 = .ok (.iinc 3 1, 3) := by decide +kernel
theorem dX12_countsAgainst_60 : decode cX12_countsAgainst 60 = .ok (.goto (-51), 3) := by decide +kernel
theorem dX12_countsAgainst_63 : decode cX12_countsAgainst 63 = .ok (.iload_n 2, 1) := by decide +kernel
theorem dX12_countsAgainst_64 : decode cX12_countsAgainst 64 = .ok (.ireturn, 1) := by decide +kernel
def g_X12_countsAgainst_37 (h : zH) (t0 : Nat) (k9 : Int32 → Int32 → Int32 → Option Int32) (x1 : Int32) (x3 : Int32) (s0 : Int32) : Option Int32 := zgu (zin ((58 + (7 * x3)) + x1) 107) <| zlet (s0 + (h.1 (zR t0 44) (zx ((58 + (7 * x3)) + x1)))) fun v_10 => k9 x1 v_10 (x3 + 1)
def g_X12_countsAgainst_9 (h : zH) (t0 : Nat)  : Nat → Int32 → Int32 → Int32 → Option Int32
  | 0, _, _, _ => none
  | n + 1, x1, x2, x3 => zgu (zin 0 8) <| if (h.1 (zR t0 10) (zx 0)) ≤ x3 then (some x2) else ((g_X12_isAlive h t0 x3).bind fun v_5 => if (zb v_5) = 0 then (zgu (zin 2 8) <| if (h.1 (zR t0 10) (zx 2)) = 0 then (g_X12_countsAgainst_37 h t0 (g_X12_countsAgainst_9 h t0 n) x1 x3 x2) else (g_X12_countsAgainst_9 h t0 n x1 (x2 + 0) (x3 + 1))) else (g_X12_countsAgainst_37 h t0 (g_X12_countsAgainst_9 h t0 n) x1 x3 x2))
def g_X12_countsAgainst (h : zH) (t0 : Nat) (x1 : Int32) : Option Int32 := zgu (zin x1 7) <| zlet (h.1 (zR t0 50) (zx x1)) fun v_2 => g_X12_countsAgainst_9 h t0 zfu x1 v_2 0
set_option maxRecDepth 100000 in
set_option maxHeartbeats 4000000 in
theorem b_X12_countsAgainst_37 {K : zK} {G : zG} (hK : zC K G cX12_countsAgainst RX12 4 1 21 (some .int)) {h : zH} {t0 : Nat} (ht0 : zT t0 = (11, 0)) {r : Int32} (hE : zE K G (some (.int r)) h) {k9 : Int32 → Int32 → Int32 → Option Int32} (hk9 : ∀ (x1 : Int32) (x2 : Int32) (x3 : Int32), k9 x1 x2 x3 = some r → zW K G 4 9 [(0, .ref (G.2.2.2 t0)), (1, .int x1), (2, .int x2), (3, .int x3)] [] h) (x1 : Int32) (x3 : Int32) (s0 : Int32) (hg : g_X12_countsAgainst_37 h t0 k9 x1 x3 s0 = some r) : zW K G 4 37 [(0, .ref (G.2.2.2 t0)), (1, .int x1), (3, .int x3)] [.int s0] h := by
  rw [g_X12_countsAgainst_37] at hg
  obtain ⟨c_9, hg⟩ := zgu_some hg
  obtain ⟨v_10, ev_10, hg⟩ := zlet_some hg
  exact z_aload_n (pc := 37) hK 0 dX12_countsAgainst_37 rfl (z_getR (pc := 38) hK f_X12_105_11 ht0 dX12_countsAgainst_38 (z_bipush (pc := 41) hK dX12_countsAgainst_41 zc_b58 (z_bipush (pc := 43) hK dX12_countsAgainst_43 zc_b7 (z_iload_n (pc := 45) hK 2 dX12_countsAgainst_45 rfl (z_imul (pc := 46) hK dX12_countsAgainst_46 (z_iadd (pc := 47) hK dX12_countsAgainst_47 (z_iload_n (pc := 48) hK 1 dX12_countsAgainst_48 rfl (z_iadd (pc := 49) hK dX12_countsAgainst_49 (z_iald (pc := 50) hK (zt_11_44 ht0) c_9 dX12_countsAgainst_50 (z_goto (pc := 51) hK 55 dX12_countsAgainst_51 (by decide) (z_iadd (pc := 55) hK dX12_countsAgainst_55 (z_nameI ev_10 (z_istore_n (pc := 56) hK (lv' := [(2, .int v_10), (0, .ref (G.2.2.2 t0)), (1, .int x1), (3, .int x3)]) dX12_countsAgainst_56 (by decide) rfl (z_iinc (pc := 57) hK 3 (lv' := [(3, .int (x3 + 1)), (2, .int v_10), (0, .ref (G.2.2.2 t0)), (1, .int x1)]) dX12_countsAgainst_57 rfl (zc_n1 _) (by decide) rfl (z_goto (pc := 60) hK 9 dX12_countsAgainst_60 (by decide) (zsub (lv' := [(0, .ref (G.2.2.2 t0)), (1, .int x1), (2, .int v_10), (3, .int (x3 + 1))]) [2, 3, 1, 0] rfl (hk9 x1 v_10 (x3 + 1) hg)))))))))))))))))
set_option maxRecDepth 100000 in
set_option maxHeartbeats 4000000 in
theorem b_X12_countsAgainst_9 {K : zK} {G : zG} (hK : zC K G cX12_countsAgainst RX12 4 1 21 (some .int)) {h : zH} {t0 : Nat} (ht0 : zT t0 = (11, 0)) {r : Int32} (hE : zE K G (some (.int r)) h) : ∀ (n : Nat) (x1 : Int32) (x2 : Int32) (x3 : Int32), g_X12_countsAgainst_9 h t0 n x1 x2 x3 = some r → zW K G 4 9 [(0, .ref (G.2.2.2 t0)), (1, .int x1), (2, .int x2), (3, .int x3)] [] h := by
  intro n
  induction n with
  | zero => intro x1 x2 x3 hg; exact nomatch (show none = some r from hg)
  | succ n ih =>
    intro x1 x2 x3 hg
    rw [g_X12_countsAgainst_9] at hg
    obtain ⟨c_3, hg⟩ := zgu_some hg
    refine z_iload_n (pc := 9) hK 3 dX12_countsAgainst_9 rfl (z_aload_n (pc := 10) hK 0 dX12_countsAgainst_10 rfl (z_getR (pc := 11) hK f_X12_13_11 ht0 dX12_countsAgainst_11 (z_iconst (pc := 14) hK dX12_countsAgainst_14 zc_i0 (z_iald (pc := 15) hK (zt_11_10 ht0) c_3 dX12_countsAgainst_15 (z_icmp_ge (pc := 16) hK 63 dX12_countsAgainst_16 (by decide) (fun c_4 => ?_) (fun c_4 => ?_))))))
    · rw [if_pos c_4] at hg
      exact z_iload_n (pc := 63) hK 2 dX12_countsAgainst_63 rfl (z_iretP (pc := 64) hK hE hg dX12_countsAgainst_64)
    · rw [if_neg c_4] at hg
      obtain ⟨v_5, qv_5, hg⟩ := zbind_some hg
      refine z_iload_n (pc := 19) hK 2 dX12_countsAgainst_19 rfl (z_aload_n (pc := 20) hK 0 dX12_countsAgainst_20 rfl (z_iload_n (pc := 21) hK 3 dX12_countsAgainst_21 rfl (z_callVi (pc := 22) hK [.int x3] (m_X12_isAlive (zC_D hK) ht0 qv_5) sv_X12_isAlive q_1628 ht0 rfl [.int x2] rfl (Nat.le_of_ble_eq_true rfl) ⟨by decide, by decide⟩ dX12_countsAgainst_22 (z_if_ne (pc := 25) hK 37 dX12_countsAgainst_25 (by decide) (fun c_6 => ?_) (fun c_6 => ?_)))))
      · rw [if_neg c_6] at hg
        exact zsub (lv' := [(0, .ref (G.2.2.2 t0)), (1, .int x1), (3, .int x3)]) [0, 1, 3] rfl (b_X12_countsAgainst_37 hK ht0 hE ih x1 x3 x2 hg)
      · rw [if_pos c_6] at hg
        obtain ⟨c_7, hg⟩ := zgu_some hg
        refine z_aload_n (pc := 28) hK 0 dX12_countsAgainst_28 rfl (z_getR (pc := 29) hK f_X12_13_11 ht0 dX12_countsAgainst_29 (z_iconst (pc := 32) hK dX12_countsAgainst_32 zc_i2 (z_iald (pc := 33) hK (zt_11_10 ht0) c_7 dX12_countsAgainst_33 (z_if_ne (pc := 34) hK 54 dX12_countsAgainst_34 (by decide) (fun c_8 => ?_) (fun c_8 => ?_)))))
        · rw [if_neg c_8] at hg
          exact z_iconst (pc := 54) hK dX12_countsAgainst_54 zc_i0 (z_iadd (pc := 55) hK dX12_countsAgainst_55 (z_istore_n (pc := 56) hK (lv' := [(2, .int (x2 + 0)), (0, .ref (G.2.2.2 t0)), (1, .int x1), (3, .int x3)]) dX12_countsAgainst_56 (by decide) rfl (z_iinc (pc := 57) hK 3 (lv' := [(3, .int (x3 + 1)), (2, .int (x2 + 0)), (0, .ref (G.2.2.2 t0)), (1, .int x1)]) dX12_countsAgainst_57 rfl (zc_n1 _) (by decide) rfl (z_goto (pc := 60) hK 9 dX12_countsAgainst_60 (by decide) (zsub (lv' := [(0, .ref (G.2.2.2 t0)), (1, .int x1), (2, .int (x2 + 0)), (3, .int (x3 + 1))]) [2, 3, 1, 0] rfl (ih x1 (x2 + 0) (x3 + 1) hg))))))
        · rw [if_pos c_8] at hg
          exact zsub (lv' := [(0, .ref (G.2.2.2 t0)), (1, .int x1), (3, .int x3)]) [0, 1, 3] rfl (b_X12_countsAgainst_37 hK ht0 hE ih x1 x3 x2 hg)
set_option maxRecDepth 100000 in
set_option maxHeartbeats 4000000 in
theorem b_X12_countsAgainst {K : zK} {G : zG} (hK : zC K G cX12_countsAgainst RX12 4 1 21 (some .int)) {h : zH} {t0 : Nat} {x1 : Int32} (ht0 : zT t0 = (11, 0)) {r : Int32} (hE : zE K G (some (.int r)) h) (hg : g_X12_countsAgainst h t0 x1 = some r) : zW K G 4 0 [(0, .ref (G.2.2.2 t0)), (1, .int x1)] [] h := by
  rw [g_X12_countsAgainst] at hg
  obtain ⟨c_1, hg⟩ := zgu_some hg
  obtain ⟨v_2, ev_2, hg⟩ := zlet_some hg
  exact z_aload_n (pc := 0) hK 0 dX12_countsAgainst_0 rfl (z_getR (pc := 1) hK f_X12_120_11 ht0 dX12_countsAgainst_1 (z_iload_n (pc := 4) hK 1 dX12_countsAgainst_4 rfl (z_iald (pc := 5) hK (zt_11_50 ht0) c_1 dX12_countsAgainst_5 (z_nameI ev_2 (z_istore_n (pc := 6) hK (lv' := [(2, .int v_2), (0, .ref (G.2.2.2 t0)), (1, .int x1)]) dX12_countsAgainst_6 (by decide) rfl (z_iconst (pc := 7) hK dX12_countsAgainst_7 zc_i0 (z_istore_n (pc := 8) hK (lv' := [(3, .int 0), (2, .int v_2), (0, .ref (G.2.2.2 t0)), (1, .int x1)]) dX12_countsAgainst_8 (by decide) rfl (zsub (lv' := [(0, .ref (G.2.2.2 t0)), (1, .int x1), (2, .int v_2), (3, .int 0)]) [2, 3, 1, 0] rfl (b_X12_countsAgainst_9 hK ht0 hE zfu x1 v_2 0 hg)))))))))
theorem m_X12_countsAgainst {l : Launch} {G : zG} (hG : zD G) {h : zH} {t0 : Nat} {x1 : Int32} (ht0 : zT t0 = (11, 0)) {r : Int32} (hg : g_X12_countsAgainst h t0 x1 = some r) : zM l G yX12_countsAgainst cX12_countsAgainst 4 (some .int) 1 21 [.ref (G.2.2.2 t0), .int x1] h (some (.int r)) h :=
  zM_of hG pn_X12 (Nat.le_of_ble_eq_true rfl) (fun K _ hK hE => b_X12_countsAgainst hK ht0 hE hg)
theorem dX12_isRather_0 : decode cX12_isRather 0 = .ok (.aload_n 0, 1) := by decide +kernel
theorem dX12_isRather_1 : decode cX12_isRather 1 = .ok (.getfield 23, 3) := by decide +kernel
theorem dX12_isRather_4 : decode cX12_isRather 4 = .ok (.iload_n 1, 1) := by decide +kernel
theorem dX12_isRather_5 : decode cX12_isRather 5 = .ok (.iaload, 1) := by decide +kernel
theorem dX12_isRather_6 : decode cX12_isRather 6 = .ok (.aload_n 0, 1) := by decide +kernel
theorem dX12_isRather_7 : decode cX12_isRather 7 = .ok (.getfield 23, 3) := by decide +kernel
theorem dX12_isRather_10 : decode cX12_isRather 10 = .ok (.iload_n 2, 1) := by decide +kernel
theorem dX12_isRather_11 : decode cX12_isRather 11 = .ok (.iaload, 1) := by decide +kernel
theorem dX12_isRather_12 : decode cX12_isRather 12 = .ok (.if_icmp .ne 14, 3) := by decide +kernel
theorem dX12_isRather_15 : decode cX12_isRather 15 = .ok (.iload_n 1, 1) := by decide +kernel
theorem dX12_isRather_16 : decode cX12_isRather 16 = .ok (.iload_n 2, 1) := by decide +kernel
theorem dX12_isRather_17 : decode cX12_isRather 17 = .ok (.if_icmp .ge 7, 3) := by decide +kernel
theorem dX12_isRather_20 : decode cX12_isRather 20 = .ok (.iconst 1, 1) := by decide +kernel
theorem dX12_isRather_21 : decode cX12_isRather 21 = .ok (.goto 4, 3) := by decide +kernel
theorem dX12_isRather_24 : decode cX12_isRather 24 = .ok (.iconst 0, 1) := by decide +kernel
theorem dX12_isRather_25 : decode cX12_isRather 25 = .ok (.ireturn, 1) := by decide +kernel
theorem dX12_isRather_26 : decode cX12_isRather 26 = .ok (.aload_n 0, 1) := by decide +kernel
theorem dX12_isRather_27 : decode cX12_isRather 27 = .ok (.getfield 13, 3) := by decide +kernel
theorem dX12_isRather_30 : decode cX12_isRather 30 = .ok (.iconst 3, 1) := by decide +kernel
theorem dX12_isRather_31 : decode cX12_isRather 31 = .ok (.iaload, 1) := by decide +kernel
theorem dX12_isRather_32 : decode cX12_isRather 32 = .ok (.iconst 1, 1) := by decide +kernel
theorem dX12_isRather_33 : decode cX12_isRather 33 = .ok (.if_icmp .ne 26, 3) := by decide +kernel
theorem dX12_isRather_36 : decode cX12_isRather 36 = .ok (.aload_n 0, 1) := by decide +kernel
theorem dX12_isRather_37 : decode cX12_isRather 37 = .ok (.getfield 23, 3) := by decide +kernel
theorem dX12_isRather_40 : decode cX12_isRather 40 = .ok (.iload_n 1, 1) := by decide +kernel
theorem dX12_isRather_41 : decode cX12_isRather 41 = .ok (.iaload, 1) := by decide +kernel
theorem dX12_isRather_42 : decode cX12_isRather 42 = .ok (.aload_n 0, 1) := by decide +kernel
theorem dX12_isRather_43 : decode cX12_isRather 43 = .ok (.getfield 23, 3) := by decide +kernel
theorem dX12_isRather_46 : decode cX12_isRather 46 = .ok (.iload_n 2, 1) := by decide +kernel
theorem dX12_isRather_47 : decode cX12_isRather 47 = .ok (.iaload, 1) := by decide +kernel
theorem dX12_isRather_48 : decode cX12_isRather 48 = .ok (.if_icmp .ge 7, 3) := by decide +kernel
theorem dX12_isRather_51 : decode cX12_isRather 51 = .ok (.iconst 1, 1) := by decide +kernel
theorem dX12_isRather_52 : decode cX12_isRather 52 = .ok (.goto 27, 3) := by decide +kernel
theorem dX12_isRather_55 : decode cX12_isRather 55 = .ok (.iconst 0, 1) := by decide +kernel
theorem dX12_isRather_56 : decode cX12_isRather 56 = .ok (.goto 23, 3) := by decide +kernel
theorem dX12_isRather_59 : decode cX12_isRather 59 = .ok (.aload_n 0, 1) := by decide +kernel
theorem dX12_isRather_60 : decode cX12_isRather 60 = .ok (.getfield 23, 3) := by decide +kernel
theorem dX12_isRather_63 : decode cX12_isRather 63 = .ok (.iload_n 1, 1) := by decide +kernel
theorem dX12_isRather_64 : decode cX12_isRather 64 = .ok (.iaload, 1) := by decide +kernel
theorem dX12_isRather_65 : decode cX12_isRather 65 = .ok (.aload_n 0, 1) := by decide +kernel
theorem dX12_isRather_66 : decode cX12_isRather 66 = .ok (.getfield 23, 3) := by decide +kernel
theorem dX12_isRather_69 : decode cX12_isRather 69 = .ok (.iload_n 2, 1) := by decide +kernel
theorem dX12_isRather_70 : decode cX12_isRather 70 = .ok (.iaload, 1) := by decide +kernel
theorem dX12_isRather_71 : decode cX12_isRather 71 = .ok (.if_icmp .le 7, 3) := by decide +kernel
theorem dX12_isRather_74 : decode cX12_isRather 74 = .ok (.iconst 1, 1) := by decide +kernel
theorem dX12_isRather_75 : decode cX12_isRather 75 = .ok (.goto 4, 3) := by decide +kernel
theorem dX12_isRather_78 : decode cX12_isRather 78 = .ok (.iconst 0, 1) := by decide +kernel
theorem dX12_isRather_79 : decode cX12_isRather 79 = .ok (.ireturn, 1) := by decide +kernel
def g_X12_isRather (h : zH) (t0 : Nat) (x1 : Int32) (x2 : Int32) : Option Bool := zgu (zin x1 14) <| zgu (zin x2 14) <| if (h.1 (zR t0 13) (zx x1)) = (h.1 (zR t0 13) (zx x2)) then (if x2 ≤ x1 then (some false) else (some true)) else (zgu (zin 3 8) <| if (h.1 (zR t0 10) (zx 3)) = 1 then (zgu (zin x1 14) <| zgu (zin x2 14) <| if (h.1 (zR t0 13) (zx x2)) ≤ (h.1 (zR t0 13) (zx x1)) then (some false) else (some true)) else (zgu (zin x1 14) <| zgu (zin x2 14) <| if (h.1 (zR t0 13) (zx x1)) ≤ (h.1 (zR t0 13) (zx x2)) then (some false) else (some true)))
set_option maxRecDepth 100000 in
set_option maxHeartbeats 4000000 in
theorem b_X12_isRather {K : zK} {G : zG} (hK : zC K G cX12_isRather RX12 3 0 0 (some .boolean)) {h : zH} {t0 : Nat} {x1 : Int32} {x2 : Int32} (ht0 : zT t0 = (11, 0)) {r : Bool} (hE : zE K G (some (.int (zb r))) h) (hg : g_X12_isRather h t0 x1 x2 = some r) : zW K G 3 0 [(0, .ref (G.2.2.2 t0)), (1, .int x1), (2, .int x2)] [] h := by
  rw [g_X12_isRather] at hg
  obtain ⟨c_1, hg⟩ := zgu_some hg
  obtain ⟨c_2, hg⟩ := zgu_some hg
  refine z_aload_n (pc := 0) hK 0 dX12_isRather_0 rfl (z_getR (pc := 1) hK f_X12_23_11 ht0 dX12_isRather_1 (z_iload_n (pc := 4) hK 1 dX12_isRather_4 rfl (z_iald (pc := 5) hK (zt_11_13 ht0) c_1 dX12_isRather_5 (z_aload_n (pc := 6) hK 0 dX12_isRather_6 rfl (z_getR (pc := 7) hK f_X12_23_11 ht0 dX12_isRather_7 (z_iload_n (pc := 10) hK 2 dX12_isRather_10 rfl (z_iald (pc := 11) hK (zt_11_13 ht0) c_2 dX12_isRather_11 (z_icmp_ne (pc := 12) hK 26 dX12_isRather_12 (by decide) (fun c_3 => ?_) (fun c_3 => ?_)))))))))
  · rw [if_neg c_3] at hg
    obtain ⟨c_4, hg⟩ := zgu_some hg
    refine z_aload_n (pc := 26) hK 0 dX12_isRather_26 rfl (z_getR (pc := 27) hK f_X12_13_11 ht0 dX12_isRather_27 (z_iconst (pc := 30) hK dX12_isRather_30 zc_i3 (z_iald (pc := 31) hK (zt_11_10 ht0) c_4 dX12_isRather_31 (z_iconst (pc := 32) hK dX12_isRather_32 zc_i1 (z_icmp_ne (pc := 33) hK 59 dX12_isRather_33 (by decide) (fun c_5 => ?_) (fun c_5 => ?_))))))
    · rw [if_neg c_5] at hg
      obtain ⟨c_6, hg⟩ := zgu_some hg
      obtain ⟨c_7, hg⟩ := zgu_some hg
      refine z_aload_n (pc := 59) hK 0 dX12_isRather_59 rfl (z_getR (pc := 60) hK f_X12_23_11 ht0 dX12_isRather_60 (z_iload_n (pc := 63) hK 1 dX12_isRather_63 rfl (z_iald (pc := 64) hK (zt_11_13 ht0) c_6 dX12_isRather_64 (z_aload_n (pc := 65) hK 0 dX12_isRather_65 rfl (z_getR (pc := 66) hK f_X12_23_11 ht0 dX12_isRather_66 (z_iload_n (pc := 69) hK 2 dX12_isRather_69 rfl (z_iald (pc := 70) hK (zt_11_13 ht0) c_7 dX12_isRather_70 (z_icmp_le (pc := 71) hK 78 dX12_isRather_71 (by decide) (fun c_8 => ?_) (fun c_8 => ?_)))))))))
      · rw [if_pos c_8] at hg
        exact z_iconst (pc := 78) hK dX12_isRather_78 zc_i0 (z_zretP (pc := 79) hK rfl hE hg dX12_isRather_79)
      · rw [if_neg c_8] at hg
        exact z_iconst (pc := 74) hK dX12_isRather_74 zc_i1 (z_goto (pc := 75) hK 79 dX12_isRather_75 (by decide) (z_zretP (pc := 79) hK rfl hE hg dX12_isRather_79))
    · rw [if_pos c_5] at hg
      obtain ⟨c_9, hg⟩ := zgu_some hg
      obtain ⟨c_10, hg⟩ := zgu_some hg
      refine z_aload_n (pc := 36) hK 0 dX12_isRather_36 rfl (z_getR (pc := 37) hK f_X12_23_11 ht0 dX12_isRather_37 (z_iload_n (pc := 40) hK 1 dX12_isRather_40 rfl (z_iald (pc := 41) hK (zt_11_13 ht0) c_9 dX12_isRather_41 (z_aload_n (pc := 42) hK 0 dX12_isRather_42 rfl (z_getR (pc := 43) hK f_X12_23_11 ht0 dX12_isRather_43 (z_iload_n (pc := 46) hK 2 dX12_isRather_46 rfl (z_iald (pc := 47) hK (zt_11_13 ht0) c_10 dX12_isRather_47 (z_icmp_ge (pc := 48) hK 55 dX12_isRather_48 (by decide) (fun c_11 => ?_) (fun c_11 => ?_)))))))))
      · rw [if_pos c_11] at hg
        exact z_iconst (pc := 55) hK dX12_isRather_55 zc_i0 (z_goto (pc := 56) hK 79 dX12_isRather_56 (by decide) (z_zretP (pc := 79) hK rfl hE hg dX12_isRather_79))
      · rw [if_neg c_11] at hg
        exact z_iconst (pc := 51) hK dX12_isRather_51 zc_i1 (z_goto (pc := 52) hK 79 dX12_isRather_52 (by decide) (z_zretP (pc := 79) hK rfl hE hg dX12_isRather_79))
  · rw [if_pos c_3] at hg
    refine z_iload_n (pc := 15) hK 1 dX12_isRather_15 rfl (z_iload_n (pc := 16) hK 2 dX12_isRather_16 rfl (z_icmp_ge (pc := 17) hK 24 dX12_isRather_17 (by decide) (fun c_12 => ?_) (fun c_12 => ?_)))
    · rw [if_pos c_12] at hg
      exact z_iconst (pc := 24) hK dX12_isRather_24 zc_i0 (z_zretP (pc := 25) hK rfl hE hg dX12_isRather_25)
    · rw [if_neg c_12] at hg
      exact z_iconst (pc := 20) hK dX12_isRather_20 zc_i1 (z_goto (pc := 21) hK 25 dX12_isRather_21 (by decide) (z_zretP (pc := 25) hK rfl hE hg dX12_isRather_25))
theorem m_X12_isRather {l : Launch} {G : zG} (hG : zD G) {h : zH} {t0 : Nat} {x1 : Int32} {x2 : Int32} (ht0 : zT t0 = (11, 0)) {r : Bool} (hg : g_X12_isRather h t0 x1 x2 = some r) : zM l G yX12_isRather cX12_isRather 3 (some .boolean) 0 0 [.ref (G.2.2.2 t0), .int x1, .int x2] h (some (.int (zb r))) h :=
  zM_of hG pn_X12 (Nat.le_of_ble_eq_true rfl) (fun K _ hK hE => b_X12_isRather hK ht0 hE hg)
theorem dX12_isAhead_0 : decode cX12_isAhead 0 = .ok (.aload_n 0, 1) := by decide +kernel
theorem dX12_isAhead_1 : decode cX12_isAhead 1 = .ok (.iload_n 1, 1) := by decide +kernel
theorem dX12_isAhead_2 : decode cX12_isAhead 2 = .ok (.invokevirtual 353, 3) := by decide +kernel
theorem dX12_isAhead_5 : decode cX12_isAhead 5 = .ok (.istore_n 3, 1) := by decide +kernel
theorem dX12_isAhead_6 : decode cX12_isAhead 6 = .ok (.aload_n 0, 1) := by decide +kernel
theorem dX12_isAhead_7 : decode cX12_isAhead 7 = .ok (.iload_n 2, 1) := by decide +kernel
theorem dX12_isAhead_8 : decode cX12_isAhead 8 = .ok (.invokevirtual 353, 3) := by decide +kernel
theorem dX12_isAhead_11 : decode cX12_isAhead 11 = .ok (.istore 4, 2) := by decide +kernel
theorem dX12_isAhead_13 : decode cX12_isAhead 13 = .ok (.iload_n 3, 1) := by decide +kernel
theorem dX12_isAhead_14 : decode cX12_isAhead 14 = .ok (.iload 4, 2) := by decide +kernel
theorem dX12_isAhead_16 : decode cX12_isAhead 16 = .ok (.if_icmp .lt 18, 3) := by decide +kernel
theorem dX12_isAhead_19 : decode cX12_isAhead 19 = .ok (.iload_n 3, 1) := by decide +kernel
theorem dX12_isAhead_20 : decode cX12_isAhead 20 = .ok (.iload 4, 2) := by decide +kernel
theorem dX12_isAhead_22 : decode cX12_isAhead 22 = .ok (.if_icmp .ne 16, 3) := by decide +kernel
theorem dX12_isAhead_25 : decode cX12_isAhead 25 = .ok (.aload_n 0, 1) := by decide +kernel
theorem dX12_isAhead_26 : decode cX12_isAhead 26 = .ok (.iload_n 1, 1) := by decide +kernel
theorem dX12_isAhead_27 : decode cX12_isAhead 27 = .ok (.iload_n 2, 1) := by decide +kernel
theorem dX12_isAhead_28 : decode cX12_isAhead 28 = .ok (.invokevirtual 356, 3) := by decide +kernel
theorem dX12_isAhead_31 : decode cX12_isAhead 31 = .ok (.ifCond .eq 7, 3) := by decide +kernel
theorem dX12_isAhead_34 : decode cX12_isAhead 34 = .ok (.iconst 1, 1) := by decide +kernel
theorem dX12_isAhead_35 : decode cX12_isAhead 35 = .ok (.goto 4, 3) := by decide +kernel
theorem dX12_isAhead_38 : decode cX12_isAhead 38 = .ok (.iconst 0, 1) := by decide +kernel
theorem dX12_isAhead_39 : decode cX12_isAhead 39 = .ok (.ireturn, 1) := by decide +kernel
def g_X12_isAhead (h : zH) (t0 : Nat) (x1 : Int32) (x2 : Int32) : Option Bool := (g_X12_countsAgainst h t0 x1).bind fun v_1 => (g_X12_countsAgainst h t0 x2).bind fun v_2 => if v_1 < v_2 then (some true) else (if v_1 = v_2 then ((g_X12_isRather h t0 x1 x2).bind fun v_5 => if (zb v_5) = 0 then (some false) else (some true)) else (some false))
set_option maxRecDepth 100000 in
set_option maxHeartbeats 4000000 in
theorem b_X12_isAhead {K : zK} {G : zG} (hK : zC K G cX12_isAhead RX12 5 2 44 (some .boolean)) {h : zH} {t0 : Nat} {x1 : Int32} {x2 : Int32} (ht0 : zT t0 = (11, 0)) {r : Bool} (hE : zE K G (some (.int (zb r))) h) (hg : g_X12_isAhead h t0 x1 x2 = some r) : zW K G 5 0 [(0, .ref (G.2.2.2 t0)), (1, .int x1), (2, .int x2)] [] h := by
  rw [g_X12_isAhead] at hg
  obtain ⟨v_1, qv_1, hg⟩ := zbind_some hg
  obtain ⟨v_2, qv_2, hg⟩ := zbind_some hg
  refine z_aload_n (pc := 0) hK 0 dX12_isAhead_0 rfl (z_iload_n (pc := 1) hK 1 dX12_isAhead_1 rfl (z_callVi (pc := 2) hK [.int x1] (m_X12_countsAgainst (zC_D hK) ht0 qv_1) sv_X12_countsAgainst q_1624 ht0 rfl [] rfl (Nat.le_of_ble_eq_true rfl) ⟨by decide, by decide⟩ dX12_isAhead_2 (z_istore_n (pc := 5) hK (lv' := [(3, .int v_1), (0, .ref (G.2.2.2 t0)), (1, .int x1), (2, .int x2)]) dX12_isAhead_5 (by decide) rfl (z_aload_n (pc := 6) hK 1 dX12_isAhead_6 rfl (z_iload_n (pc := 7) hK 3 dX12_isAhead_7 rfl (z_callVi (pc := 8) hK [.int x2] (m_X12_countsAgainst (zC_D hK) ht0 qv_2) sv_X12_countsAgainst q_1624 ht0 rfl [] rfl (Nat.le_of_ble_eq_true rfl) ⟨by decide, by decide⟩ dX12_isAhead_8 (z_istore (pc := 11) hK (lv' := [(4, .int v_2), (3, .int v_1), (0, .ref (G.2.2.2 t0)), (1, .int x1), (2, .int x2)]) dX12_isAhead_11 (by decide) rfl (z_iload_n (pc := 13) hK 1 dX12_isAhead_13 rfl (z_iload (pc := 14) hK 0 dX12_isAhead_14 rfl (z_icmp_lt (pc := 16) hK 34 dX12_isAhead_16 (by decide) (fun c_3 => ?_) (fun c_3 => ?_)))))))))))
  · rw [if_pos c_3] at hg
    exact z_iconst (pc := 34) hK dX12_isAhead_34 zc_i1 (z_goto (pc := 35) hK 39 dX12_isAhead_35 (by decide) (z_zretP (pc := 39) hK rfl hE hg dX12_isAhead_39))
  · rw [if_neg c_3] at hg
    refine z_iload_n (pc := 19) hK 1 dX12_isAhead_19 rfl (z_iload (pc := 20) hK 0 dX12_isAhead_20 rfl (z_icmp_ne (pc := 22) hK 38 dX12_isAhead_22 (by decide) (fun c_4 => ?_) (fun c_4 => ?_)))
    · rw [if_neg c_4] at hg
      exact z_iconst (pc := 38) hK dX12_isAhead_38 zc_i0 (z_zretP (pc := 39) hK rfl hE hg dX12_isAhead_39)
    · rw [if_pos c_4] at hg
      obtain ⟨v_5, qv_5, hg⟩ := zbind_some hg
      refine z_aload_n (pc := 25) hK 2 dX12_isAhead_25 rfl (z_iload_n (pc := 26) hK 3 dX12_isAhead_26 rfl (z_iload_n (pc := 27) hK 4 dX12_isAhead_27 rfl (z_callVi (pc := 28) hK [.int x1, .int x2] (m_X12_isRather (zC_D hK) ht0 qv_5) sv_X12_isRather q_1660 ht0 rfl [] rfl (Nat.le_of_ble_eq_true rfl) ⟨by decide, by decide⟩ dX12_isAhead_28 (z_if_eq (pc := 31) hK 38 dX12_isAhead_31 (by decide) (fun c_6 => ?_) (fun c_6 => ?_)))))
      · rw [if_pos c_6] at hg
        exact z_iconst (pc := 38) hK dX12_isAhead_38 zc_i0 (z_zretP (pc := 39) hK rfl hE hg dX12_isAhead_39)
      · rw [if_neg c_6] at hg
        exact z_iconst (pc := 34) hK dX12_isAhead_34 zc_i1 (z_goto (pc := 35) hK 39 dX12_isAhead_35 (by decide) (z_zretP (pc := 39) hK rfl hE hg dX12_isAhead_39))
theorem m_X12_isAhead {l : Launch} {G : zG} (hG : zD G) {h : zH} {t0 : Nat} {x1 : Int32} {x2 : Int32} (ht0 : zT t0 = (11, 0)) {r : Bool} (hg : g_X12_isAhead h t0 x1 x2 = some r) : zM l G yX12_isAhead cX12_isAhead 5 (some .boolean) 2 44 [.ref (G.2.2.2 t0), .int x1, .int x2] h (some (.int (zb r))) h :=
  zM_of hG pn_X12 (Nat.le_of_ble_eq_true rfl) (fun K _ hK hE => b_X12_isAhead hK ht0 hE hg)
theorem dX12_governor_0 : decode cX12_governor 0 = .ok (.iconst (-1), 1) := by decide +kernel
theorem dX12_governor_1 : decode cX12_governor 1 = .ok (.istore_n 1, 1) := by decide +kernel
theorem dX12_governor_2 : decode cX12_governor 2 = .ok (.iconst 0, 1) := by decide +kernel
theorem dX12_governor_3 : decode cX12_governor 3 = .ok (.istore_n 2, 1) := by decide +kernel
theorem dX12_governor_4 : decode cX12_governor 4 = .ok (.iload_n 2, 1) := by decide +kernel
theorem dX12_governor_5 : decode cX12_governor 5 = .ok (.aload_n 0, 1) := by decide +kernel
theorem dX12_governor_6 : decode cX12_governor 6 = .ok (.getfield 13, 3) := by decide +kernel
theorem dX12_governor_9 : decode cX12_governor 9 = .ok (.iconst 0, 1) := by decide +kernel
theorem dX12_governor_10 : decode cX12_governor 10 = .ok (.iaload, 1) := by decide +kernel
theorem dX12_governor_11 : decode cX12_governor 11 = .ok (.if_icmp .ge 32, 3) := by decide +kernel
theorem dX12_governor_14 : decode cX12_governor 14 = .ok (.aload_n 0, 1) := by decide +kernel
theorem dX12_governor_15 : decode cX12_governor 15 = .ok (.iload_n 2, 1) := by decide +kernel
theorem dX12_governor_16 : decode cX12_governor 16 = .ok (.invokevirtual 350, 3) := by decide +kernel
theorem dX12_governor_19 : decode cX12_governor 19 = .ok (.ifCond .eq 18, 3) := by decide +kernel
theorem dX12_governor_22 : decode cX12_governor 22 = .ok (.iload_n 1, 1) := by decide +kernel
theorem dX12_governor_23 : decode cX12_governor 23 = .ok (.ifCond .lt 12, 3) := by decide +kernel
theorem dX12_governor_26 : decode cX12_governor 26 = .ok (.aload_n 0, 1) := by decide +kernel
theorem dX12_governor_27 : decode cX12_governor 27 = .ok (.iload_n 2, 1) := by decide +kernel
theorem dX12_governor_28 : decode cX12_governor 28 = .ok (.iload_n 1, 1) := by decide +kernel
theorem dX12_governor_29 : decode cX12_governor 29 = .ok (.invokevirtual 359, 3) := by decide +kernel
theorem dX12_governor_32 : decode cX12_governor 32 = .ok (.ifCond .eq 5, 3) := by decide +kernel
theorem dX12_governor_35 : decode cX12_governor 35 = .ok (.iload_n 2, 1) := by decide +kernel
theorem dX12_governor_36 : decode cX12_governor 36 = .ok (.istore_n 1, 1) := by decide +kernel
theorem dX12_governor_37 : decode cX12_governor 37 = .ok (.iinc 2 1, 3) := by decide +kernel
theorem dX12_governor_40 : decode cX12_governor 40 = .ok (.goto (-36), 3) := by decide +kernel
theorem dX12_governor_43 : decode cX12_governor 43 = .ok (.iload_n 1, 1) := by decide +kernel
theorem dX12_governor_44 : decode cX12_governor 44 = .ok (.ireturn, 1) := by decide +kernel
def g_X12_governor_4 (h : zH) (t0 : Nat)  : Nat → Int32 → Int32 → Option Int32
  | 0, _, _ => none
  | n + 1, x1, x2 => zgu (zin 0 8) <| if (h.1 (zR t0 10) (zx 0)) ≤ x2 then (some x1) else ((g_X12_isAlive h t0 x2).bind fun v_3 => if (zb v_3) = 0 then (g_X12_governor_4 h t0 n x1 (x2 + 1)) else (if x1 < 0 then (g_X12_governor_4 h t0 n x2 (x2 + 1)) else ((g_X12_isAhead h t0 x2 x1).bind fun v_6 => if (zb v_6) = 0 then (g_X12_governor_4 h t0 n x1 (x2 + 1)) else (g_X12_governor_4 h t0 n x2 (x2 + 1)))))
def g_X12_governor (h : zH) (t0 : Nat) : Option Int32 := g_X12_governor_4 h t0 zfu (-1) 0
set_option maxRecDepth 100000 in
set_option maxHeartbeats 4000000 in
theorem b_X12_governor_4 {K : zK} {G : zG} (hK : zC K G cX12_governor RX12 3 3 68 (some .int)) {h : zH} {t0 : Nat} (ht0 : zT t0 = (11, 0)) {r : Int32} (hE : zE K G (some (.int r)) h) : ∀ (n : Nat) (x1 : Int32) (x2 : Int32), g_X12_governor_4 h t0 n x1 x2 = some r → zW K G 3 4 [(0, .ref (G.2.2.2 t0)), (1, .int x1), (2, .int x2)] [] h := by
  intro n
  induction n with
  | zero => intro x1 x2 hg; exact nomatch (show none = some r from hg)
  | succ n ih =>
    intro x1 x2 hg
    rw [g_X12_governor_4] at hg
    obtain ⟨c_1, hg⟩ := zgu_some hg
    refine z_iload_n (pc := 4) hK 2 dX12_governor_4 rfl (z_aload_n (pc := 5) hK 0 dX12_governor_5 rfl (z_getR (pc := 6) hK f_X12_13_11 ht0 dX12_governor_6 (z_iconst (pc := 9) hK dX12_governor_9 zc_i0 (z_iald (pc := 10) hK (zt_11_10 ht0) c_1 dX12_governor_10 (z_icmp_ge (pc := 11) hK 43 dX12_governor_11 (by decide) (fun c_2 => ?_) (fun c_2 => ?_))))))
    · rw [if_pos c_2] at hg
      exact z_iload_n (pc := 43) hK 1 dX12_governor_43 rfl (z_iretP (pc := 44) hK hE hg dX12_governor_44)
    · rw [if_neg c_2] at hg
      obtain ⟨v_3, qv_3, hg⟩ := zbind_some hg
      refine z_aload_n (pc := 14) hK 0 dX12_governor_14 rfl (z_iload_n (pc := 15) hK 2 dX12_governor_15 rfl (z_callVi (pc := 16) hK [.int x2] (m_X12_isAlive (zC_D hK) ht0 qv_3) sv_X12_isAlive q_1628 ht0 rfl [] rfl (Nat.le_of_ble_eq_true rfl) ⟨by decide, by decide⟩ dX12_governor_16 (z_if_eq (pc := 19) hK 37 dX12_governor_19 (by decide) (fun c_4 => ?_) (fun c_4 => ?_))))
      · rw [if_pos c_4] at hg
        exact z_iinc (pc := 37) hK 2 (lv' := [(2, .int (x2 + 1)), (0, .ref (G.2.2.2 t0)), (1, .int x1)]) dX12_governor_37 rfl (zc_n1 _) (by decide) rfl (z_goto (pc := 40) hK 4 dX12_governor_40 (by decide) (zsub (lv' := [(0, .ref (G.2.2.2 t0)), (1, .int x1), (2, .int (x2 + 1))]) [1, 2, 0] rfl (ih x1 (x2 + 1) hg)))
      · rw [if_neg c_4] at hg
        refine z_iload_n (pc := 22) hK 1 dX12_governor_22 rfl (z_if_lt (pc := 23) hK 35 dX12_governor_23 (by decide) (fun c_5 => ?_) (fun c_5 => ?_))
        · rw [if_pos c_5] at hg
          exact z_iload_n (pc := 35) hK 2 dX12_governor_35 rfl (z_istore_n (pc := 36) hK (lv' := [(1, .int x2), (0, .ref (G.2.2.2 t0)), (2, .int x2)]) dX12_governor_36 (by decide) rfl (z_iinc (pc := 37) hK 2 (lv' := [(2, .int (x2 + 1)), (1, .int x2), (0, .ref (G.2.2.2 t0))]) dX12_governor_37 rfl (zc_n1 _) (by decide) rfl (z_goto (pc := 40) hK 4 dX12_governor_40 (by decide) (zsub (lv' := [(0, .ref (G.2.2.2 t0)), (1, .int x2), (2, .int (x2 + 1))]) [2, 1, 0] rfl (ih x2 (x2 + 1) hg)))))
        · rw [if_neg c_5] at hg
          obtain ⟨v_6, qv_6, hg⟩ := zbind_some hg
          refine z_aload_n (pc := 26) hK 0 dX12_governor_26 rfl (z_iload_n (pc := 27) hK 2 dX12_governor_27 rfl (z_iload_n (pc := 28) hK 1 dX12_governor_28 rfl (z_callVi (pc := 29) hK [.int x2, .int x1] (m_X12_isAhead (zC_D hK) ht0 qv_6) sv_X12_isAhead q_1656 ht0 rfl [] rfl (Nat.le_of_ble_eq_true rfl) ⟨by decide, by decide⟩ dX12_governor_29 (z_if_eq (pc := 32) hK 37 dX12_governor_32 (by decide) (fun c_7 => ?_) (fun c_7 => ?_)))))
          · rw [if_pos c_7] at hg
            exact z_iinc (pc := 37) hK 2 (lv' := [(2, .int (x2 + 1)), (0, .ref (G.2.2.2 t0)), (1, .int x1)]) dX12_governor_37 rfl (zc_n1 _) (by decide) rfl (z_goto (pc := 40) hK 4 dX12_governor_40 (by decide) (zsub (lv' := [(0, .ref (G.2.2.2 t0)), (1, .int x1), (2, .int (x2 + 1))]) [1, 2, 0] rfl (ih x1 (x2 + 1) hg)))
          · rw [if_neg c_7] at hg
            exact z_iload_n (pc := 35) hK 2 dX12_governor_35 rfl (z_istore_n (pc := 36) hK (lv' := [(1, .int x2), (0, .ref (G.2.2.2 t0)), (2, .int x2)]) dX12_governor_36 (by decide) rfl (z_iinc (pc := 37) hK 2 (lv' := [(2, .int (x2 + 1)), (1, .int x2), (0, .ref (G.2.2.2 t0))]) dX12_governor_37 rfl (zc_n1 _) (by decide) rfl (z_goto (pc := 40) hK 4 dX12_governor_40 (by decide) (zsub (lv' := [(0, .ref (G.2.2.2 t0)), (1, .int x2), (2, .int (x2 + 1))]) [2, 1, 0] rfl (ih x2 (x2 + 1) hg)))))
set_option maxRecDepth 100000 in
set_option maxHeartbeats 4000000 in
theorem b_X12_governor {K : zK} {G : zG} (hK : zC K G cX12_governor RX12 3 3 68 (some .int)) {h : zH} {t0 : Nat} (ht0 : zT t0 = (11, 0)) {r : Int32} (hE : zE K G (some (.int r)) h) (hg : g_X12_governor h t0 = some r) : zW K G 3 0 [(0, .ref (G.2.2.2 t0))] [] h := by
  rw [g_X12_governor] at hg
  exact z_iconst (pc := 0) hK dX12_governor_0 zc_im1 (z_istore_n (pc := 1) hK (lv' := [(1, .int (-1)), (0, .ref (G.2.2.2 t0))]) dX12_governor_1 (by decide) rfl (z_iconst (pc := 2) hK dX12_governor_2 zc_i0 (z_istore_n (pc := 3) hK (lv' := [(2, .int 0), (1, .int (-1)), (0, .ref (G.2.2.2 t0))]) dX12_governor_3 (by decide) rfl (zsub (lv' := [(0, .ref (G.2.2.2 t0)), (1, .int (-1)), (2, .int 0)]) [2, 1, 0] rfl (b_X12_governor_4 hK ht0 hE zfu (-1) 0 hg)))))
theorem m_X12_governor {l : Launch} {G : zG} (hG : zD G) {h : zH} {t0 : Nat} (ht0 : zT t0 = (11, 0)) {r : Int32} (hg : g_X12_governor h t0 = some r) : zM l G yX12_governor cX12_governor 3 (some .int) 3 68 [.ref (G.2.2.2 t0)] h (some (.int r)) h :=
  zM_of hG pn_X12 (Nat.le_of_ble_eq_true rfl) (fun K _ hK hE => b_X12_governor hK ht0 hE hg)
theorem dX12_lawOf_0 : decode cX12_lawOf 0 = .ok (.aload_n 0, 1) := by decide +kernel
theorem dX12_lawOf_1 : decode cX12_lawOf 1 = .ok (.getfield 42, 3) := by decide +kernel
theorem dX12_lawOf_4 : decode cX12_lawOf 4 = .ok (.iload_n 1, 1) := by decide +kernel
theorem dX12_lawOf_5 : decode cX12_lawOf 5 = .ok (.iaload, 1) := by decide +kernel
theorem dX12_lawOf_6 : decode cX12_lawOf 6 = .ok (.aload_n 0, 1) := by decide +kernel
theorem dX12_lawOf_7 : decode cX12_lawOf 7 = .ok (.getfield 39, 3) := by decide +kernel
theorem dX12_lawOf_10 : decode cX12_lawOf 10 = .ok (.iload_n 1, 1) := by decide +kernel
theorem dX12_lawOf_11 : decode cX12_lawOf 11 = .ok (.iaload, 1) := by decide +kernel
theorem dX12_lawOf_12 : decode cX12_lawOf 12 = .ok (.if_icmp .ne 6, 3) := by decide +kernel
theorem dX12_lawOf_15 : decode cX12_lawOf 15 = .ok (.iload 4, 2) := by decide +kernel
theorem dX12_lawOf_17 : decode cX12_lawOf 17 = .ok (.ireturn, 1) := by decide +kernel
theorem dX12_lawOf_18 : decode cX12_lawOf 18 = .ok (.aload_n 0, 1) := by decide +kernel
theorem dX12_lawOf_19 : decode cX12_lawOf 19 = .ok (.getfield 81, 3) := by decide +kernel
theorem dX12_lawOf_22 : decode cX12_lawOf 22 = .ok (.iconst 1, 1) := by decide +kernel
theorem dX12_lawOf_23 : decode cX12_lawOf 23 = .ok (.aload_n 0, 1) := by decide +kernel
theorem dX12_lawOf_24 : decode cX12_lawOf 24 = .ok (.getfield 105, 3) := by decide +kernel
theorem dX12_lawOf_27 : decode cX12_lawOf 27 = .ok (.bipush 9, 2) := by decide +kernel
theorem dX12_lawOf_29 : decode cX12_lawOf 29 = .ok (.bipush 7, 2) := by decide +kernel
theorem dX12_lawOf_31 : decode cX12_lawOf 31 = .ok (.iload_n 2, 1) := by decide +kernel
theorem dX12_lawOf_32 : decode cX12_lawOf 32 = .ok (.imul, 1) := by decide +kernel
theorem dX12_lawOf_33 : decode cX12_lawOf 33 = .ok (.iadd, 1) := by decide +kernel
theorem dX12_lawOf_34 : decode cX12_lawOf 34 = .ok (.iload_n 3, 1) := by decide +kernel
theorem dX12_lawOf_35 : decode cX12_lawOf 35 = .ok (.iadd, 1) := by decide +kernel
theorem dX12_lawOf_36 : decode cX12_lawOf 36 = .ok (.iaload, 1) := by decide +kernel
theorem dX12_lawOf_37 : decode cX12_lawOf 37 = .ok (.iastore, 1) := by decide +kernel
theorem dX12_lawOf_38 : decode cX12_lawOf 38 = .ok (.aload_n 0, 1) := by decide +kernel
theorem dX12_lawOf_39 : decode cX12_lawOf 39 = .ok (.getfield 81, 3) := by decide +kernel
theorem dX12_lawOf_42 : decode cX12_lawOf 42 = .ok (.iconst 2, 1) := by decide +kernel
theorem dX12_lawOf_43 : decode cX12_lawOf 43 = .ok (.aload_n 0, 1) := by decide +kernel
theorem dX12_lawOf_44 : decode cX12_lawOf 44 = .ok (.getfield 26, 3) := by decide +kernel
theorem dX12_lawOf_47 : decode cX12_lawOf 47 = .ok (.iload_n 2, 1) := by decide +kernel
theorem dX12_lawOf_48 : decode cX12_lawOf 48 = .ok (.iaload, 1) := by decide +kernel
theorem dX12_lawOf_49 : decode cX12_lawOf 49 = .ok (.iastore, 1) := by decide +kernel
theorem dX12_lawOf_50 : decode cX12_lawOf 50 = .ok (.aload_n 0, 1) := by decide +kernel
theorem dX12_lawOf_51 : decode cX12_lawOf 51 = .ok (.getfield 81, 3) := by decide +kernel
theorem dX12_lawOf_54 : decode cX12_lawOf 54 = .ok (.iconst 3, 1) := by decide +kernel
theorem dX12_lawOf_55 : decode cX12_lawOf 55 = .ok (.aload_n 0, 1) := by decide +kernel
theorem dX12_lawOf_56 : decode cX12_lawOf 56 = .ok (.getfield 23, 3) := by decide +kernel
theorem dX12_lawOf_59 : decode cX12_lawOf 59 = .ok (.iload_n 2, 1) := by decide +kernel
theorem dX12_lawOf_60 : decode cX12_lawOf 60 = .ok (.iaload, 1) := by decide +kernel
theorem dX12_lawOf_61 : decode cX12_lawOf 61 = .ok (.iastore, 1) := by decide +kernel
theorem dX12_lawOf_62 : decode cX12_lawOf 62 = .ok (.aload_n 0, 1) := by decide +kernel
theorem dX12_lawOf_63 : decode cX12_lawOf 63 = .ok (.getfield 81, 3) := by decide +kernel
theorem dX12_lawOf_66 : decode cX12_lawOf 66 = .ok (.iconst 4, 1) := by decide +kernel
theorem dX12_lawOf_67 : decode cX12_lawOf 67 = .ok (.aload_n 0, 1) := by decide +kernel
theorem dX12_lawOf_68 : decode cX12_lawOf 68 = .ok (.iload_n 3, 1) := by decide +kernel
theorem dX12_lawOf_69 : decode cX12_lawOf 69 = .ok (.invokevirtual 353, 3) := by decide +kernel
theorem dX12_lawOf_72 : decode cX12_lawOf 72 = .ok (.iastore, 1) := by decide +kernel
theorem dX12_lawOf_73 : decode cX12_lawOf 73 = .ok (.aload_n 0, 1) := by decide +kernel
theorem dX12_lawOf_74 : decode cX12_lawOf 74 = .ok (.iload_n 1, 1) := by decide +kernel
theorem dX12_lawOf_75 : decode cX12_lawOf 75 = .ok (.invokevirtual 362, 3) := by decide +kernel
theorem dX12_lawOf_78 : decode cX12_lawOf 78 = .ok (.iconst 0, 1) := by decide +kernel
theorem dX12_lawOf_79 : decode cX12_lawOf 79 = .ok (.bipush 9, 2) := by decide +kernel
theorem dX12_lawOf_81 : decode cX12_lawOf 81 = .ok (.invokestatic 365, 3) := by decide +kernel
theorem dX12_lawOf_84 : decode cX12_lawOf 84 = .ok (.ireturn, 1) := by decide +kernel
def g_X12_lawOf (h : zH) (t0 : Nat) (x1 : Int32) (x2 : Int32) (x3 : Int32) (x4 : Int32) : Option (Int32 × zH) := zgu (zin x1 4) <| zgu (zin x1 4) <| if (h.1 (zR t0 19) (zx x1)) = (h.1 (zR t0 18) (zx x1)) then (some (x4, h)) else (zgu (zin ((9 + (7 * x2)) + x3) 107) <| zgu (zin 1 20) <| zlet (zpi h (zR t0 34) (zx 1) (h.1 (zR t0 44) (zx ((9 + (7 * x2)) + x3)))) fun h_6 => zgu (zin x2 14) <| zgu (zin 2 20) <| zlet (zpi h_6 (zR t0 34) (zx 2) (h_6.1 (zR t0 14) (zx x2))) fun h_9 => zgu (zin x2 14) <| zgu (zin 3 20) <| zlet (zpi h_9 (zR t0 34) (zx 3) (h_9.1 (zR t0 13) (zx x2))) fun h_12 => (g_X12_countsAgainst h_12 t0 x3).bind fun v_13 => zgu (zin 4 20) <| zlet (zpi h_12 (zR t0 34) (zx 4) v_13) fun h_15 => (g_X12_worked h_15 t0 x1).bind fun v_16 => (g_X12_between v_16.2 v_16.1 0 9).bind fun v_17 => some (v_17, v_16.2))
set_option maxRecDepth 100000 in
set_option maxHeartbeats 4000000 in
theorem b_X12_lawOf {K : zK} {G : zG} (hK : zC K G cX12_lawOf RX12 5 3 68 (some .int)) {h : zH} {t0 : Nat} {x1 : Int32} {x2 : Int32} {x3 : Int32} {x4 : Int32} (ht0 : zT t0 = (11, 0)) {r : Int32 × zH} (hE : zE K G (some (.int r.1)) r.2) (hg : g_X12_lawOf h t0 x1 x2 x3 x4 = some r) : zW K G 5 0 [(0, .ref (G.2.2.2 t0)), (1, .int x1), (2, .int x2), (3, .int x3), (4, .int x4)] [] h := by
  rw [g_X12_lawOf] at hg
  obtain ⟨c_1, hg⟩ := zgu_some hg
  obtain ⟨c_2, hg⟩ := zgu_some hg
  refine z_aload_n (pc := 0) hK 0 dX12_lawOf_0 rfl (z_getR (pc := 1) hK f_X12_42_11 ht0 dX12_lawOf_1 (z_iload_n (pc := 4) hK 1 dX12_lawOf_4 rfl (z_iald (pc := 5) hK (zt_11_19 ht0) c_1 dX12_lawOf_5 (z_aload_n (pc := 6) hK 0 dX12_lawOf_6 rfl (z_getR (pc := 7) hK f_X12_39_11 ht0 dX12_lawOf_7 (z_iload_n (pc := 10) hK 1 dX12_lawOf_10 rfl (z_iald (pc := 11) hK (zt_11_18 ht0) c_2 dX12_lawOf_11 (z_icmp_ne (pc := 12) hK 18 dX12_lawOf_12 (by decide) (fun c_3 => ?_) (fun c_3 => ?_)))))))))
  · rw [if_neg c_3] at hg
    obtain ⟨c_4, hg⟩ := zgu_some hg
    obtain ⟨c_5, hg⟩ := zgu_some hg
    obtain ⟨h_6, eh_6, hg⟩ := zlet_some hg
    obtain ⟨c_7, hg⟩ := zgu_some hg
    obtain ⟨c_8, hg⟩ := zgu_some hg
    obtain ⟨h_9, eh_9, hg⟩ := zlet_some hg
    obtain ⟨c_10, hg⟩ := zgu_some hg
    obtain ⟨c_11, hg⟩ := zgu_some hg
    obtain ⟨h_12, eh_12, hg⟩ := zlet_some hg
    obtain ⟨v_13, qv_13, hg⟩ := zbind_some hg
    obtain ⟨c_14, hg⟩ := zgu_some hg
    obtain ⟨h_15, eh_15, hg⟩ := zlet_some hg
    obtain ⟨v_16, qv_16, hg⟩ := zbind_some hg
    obtain ⟨v_17, qv_17, hg⟩ := zbind_some hg
    exact z_aload_n (pc := 18) hK 0 dX12_lawOf_18 rfl (z_getR (pc := 19) hK f_X12_81_11 ht0 dX12_lawOf_19 (z_iconst (pc := 22) hK dX12_lawOf_22 zc_i1 (z_aload_n (pc := 23) hK 0 dX12_lawOf_23 rfl (z_getR (pc := 24) hK f_X12_105_11 ht0 dX12_lawOf_24 (z_bipush (pc := 27) hK dX12_lawOf_27 zc_b9 (z_bipush (pc := 29) hK dX12_lawOf_29 zc_b7 (z_iload_n (pc := 31) hK 2 dX12_lawOf_31 rfl (z_imul (pc := 32) hK dX12_lawOf_32 (z_iadd (pc := 33) hK dX12_lawOf_33 (z_iload_n (pc := 34) hK 3 dX12_lawOf_34 rfl (z_iadd (pc := 35) hK dX12_lawOf_35 (z_iald (pc := 36) hK (zt_11_44 ht0) c_4 dX12_lawOf_36 (z_iast (pc := 37) hK (zt_11_34 ht0) c_5 dX12_lawOf_37 (z_nameH eh_6 (z_aload_n (pc := 38) hK 0 dX12_lawOf_38 rfl (z_getR (pc := 39) hK f_X12_81_11 ht0 dX12_lawOf_39 (z_iconst (pc := 42) hK dX12_lawOf_42 zc_i2 (z_aload_n (pc := 43) hK 0 dX12_lawOf_43 rfl (z_getR (pc := 44) hK f_X12_26_11 ht0 dX12_lawOf_44 (z_iload_n (pc := 47) hK 2 dX12_lawOf_47 rfl (z_iald (pc := 48) hK (zt_11_14 ht0) c_7 dX12_lawOf_48 (z_iast (pc := 49) hK (zt_11_34 ht0) c_8 dX12_lawOf_49 (z_nameH eh_9 (z_aload_n (pc := 50) hK 0 dX12_lawOf_50 rfl (z_getR (pc := 51) hK f_X12_81_11 ht0 dX12_lawOf_51 (z_iconst (pc := 54) hK dX12_lawOf_54 zc_i3 (z_aload_n (pc := 55) hK 0 dX12_lawOf_55 rfl (z_getR (pc := 56) hK f_X12_23_11 ht0 dX12_lawOf_56 (z_iload_n (pc := 59) hK 2 dX12_lawOf_59 rfl (z_iald (pc := 60) hK (zt_11_13 ht0) c_10 dX12_lawOf_60 (z_iast (pc := 61) hK (zt_11_34 ht0) c_11 dX12_lawOf_61 (z_nameH eh_12 (z_aload_n (pc := 62) hK 0 dX12_lawOf_62 rfl (z_getR (pc := 63) hK f_X12_81_11 ht0 dX12_lawOf_63 (z_iconst (pc := 66) hK dX12_lawOf_66 zc_i4 (z_aload_n (pc := 67) hK 0 dX12_lawOf_67 rfl (z_iload_n (pc := 68) hK 3 dX12_lawOf_68 rfl (z_callVi (pc := 69) hK [.int x3] (m_X12_countsAgainst (zC_D hK) ht0 qv_13) sv_X12_countsAgainst q_1624 ht0 rfl [.int 4, .ref (G.2.2.2 (zR t0 34))] rfl (Nat.le_of_ble_eq_true rfl) ⟨by decide, by decide⟩ dX12_lawOf_69 (z_iast (pc := 72) hK (zt_11_34 ht0) c_14 dX12_lawOf_72 (z_nameH eh_15 (z_aload_n (pc := 73) hK 0 dX12_lawOf_73 rfl (z_iload_n (pc := 74) hK 1 dX12_lawOf_74 rfl (z_callVi (pc := 75) hK [.int x1] (m_X12_worked (zC_D hK) ht0 qv_16) sv_X12_worked q_1687 ht0 rfl [] rfl (Nat.le_of_ble_eq_true rfl) ⟨by decide, by decide⟩ dX12_lawOf_75 (z_iconst (pc := 78) hK dX12_lawOf_78 zc_i0 (z_bipush (pc := 79) hK dX12_lawOf_79 zc_b9 (z_callSi (pc := 81) hK [.int v_16.1, .int 0, .int 9] (m_X12_between (zC_D hK) qv_17) ss_X12_between q_1703 rfl [] rfl (Nat.le_of_ble_eq_true rfl) ⟨by decide, by decide⟩ dX12_lawOf_81 (z_iretE (pc := 84) hK hE hg dX12_lawOf_84)))))))))))))))))))))))))))))))))))))))))))))))
  · rw [if_pos c_3] at hg
    exact z_iload (pc := 15) hK 4 dX12_lawOf_15 rfl (z_iretE (pc := 17) hK hE hg dX12_lawOf_17)
theorem m_X12_lawOf {l : Launch} {G : zG} (hG : zD G) {h : zH} {t0 : Nat} {x1 : Int32} {x2 : Int32} {x3 : Int32} {x4 : Int32} (ht0 : zT t0 = (11, 0)) {r : Int32 × zH} (hg : g_X12_lawOf h t0 x1 x2 x3 x4 = some r) : zM l G yX12_lawOf cX12_lawOf 5 (some .int) 3 68 [.ref (G.2.2.2 t0), .int x1, .int x2, .int x3, .int x4] h (some (.int r.1)) r.2 :=
  zM_of hG pn_X12 (Nat.le_of_ble_eq_true rfl) (fun K _ hK hE => b_X12_lawOf hK ht0 hE hg)
theorem dX12_canTax_0 : decode cX12_canTax 0 = .ok (.iload_n 1, 1) := by decide +kernel
theorem dX12_canTax_1 : decode cX12_canTax 1 = .ok (.ifCond .lt 17, 3) := by decide +kernel
theorem dX12_canTax_4 : decode cX12_canTax 4 = .ok (.aload_n 0, 1) := by decide +kernel
theorem dX12_canTax_5 : decode cX12_canTax 5 = .ok (.getfield 20, 3) := by decide +kernel
theorem dX12_canTax_8 : decode cX12_canTax 8 = .ok (.iload_n 1, 1) := by decide +kernel
theorem dX12_canTax_9 : decode cX12_canTax 9 = .ok (.iaload, 1) := by decide +kernel
theorem dX12_canTax_10 : decode cX12_canTax 10 = .ok (.iconst 3, 1) := by decide +kernel
theorem dX12_canTax_11 : decode cX12_canTax 11 = .ok (.if_icmp .eq 7, 3) := by decide +kernel
theorem dX12_canTax_14 : decode cX12_canTax 14 = .ok (.iconst 1, 1) := by decide +kernel
theorem dX12_canTax_15 : decode cX12_canTax 15 = .ok (.goto 4, 3) := by decide +kernel
theorem dX12_canTax_18 : decode cX12_canTax 18 = .ok (.iconst 0, 1) := by decide +kernel
theorem dX12_canTax_19 : decode cX12_canTax 19 = .ok (.ireturn, 1) := by decide +kernel
def g_X12_canTax (h : zH) (t0 : Nat) (x1 : Int32) : Option Bool := if x1 < 0 then (some false) else (zgu (zin x1 14) <| if (h.1 (zR t0 12) (zx x1)) = 3 then (some false) else (some true))
set_option maxRecDepth 100000 in
set_option maxHeartbeats 4000000 in
theorem b_X12_canTax {K : zK} {G : zG} (hK : zC K G cX12_canTax RX12 2 0 0 (some .boolean)) {h : zH} {t0 : Nat} {x1 : Int32} (ht0 : zT t0 = (11, 0)) {r : Bool} (hE : zE K G (some (.int (zb r))) h) (hg : g_X12_canTax h t0 x1 = some r) : zW K G 2 0 [(0, .ref (G.2.2.2 t0)), (1, .int x1)] [] h := by
  rw [g_X12_canTax] at hg
  refine z_iload_n (pc := 0) hK 1 dX12_canTax_0 rfl (z_if_lt (pc := 1) hK 18 dX12_canTax_1 (by decide) (fun c_1 => ?_) (fun c_1 => ?_))
  · rw [if_pos c_1] at hg
    exact z_iconst (pc := 18) hK dX12_canTax_18 zc_i0 (z_zretP (pc := 19) hK rfl hE hg dX12_canTax_19)
  · rw [if_neg c_1] at hg
    obtain ⟨c_2, hg⟩ := zgu_some hg
    refine z_aload_n (pc := 4) hK 0 dX12_canTax_4 rfl (z_getR (pc := 5) hK f_X12_20_11 ht0 dX12_canTax_5 (z_iload_n (pc := 8) hK 1 dX12_canTax_8 rfl (z_iald (pc := 9) hK (zt_11_12 ht0) c_2 dX12_canTax_9 (z_iconst (pc := 10) hK dX12_canTax_10 zc_i3 (z_icmp_eq (pc := 11) hK 18 dX12_canTax_11 (by decide) (fun c_3 => ?_) (fun c_3 => ?_))))))
    · rw [if_pos c_3] at hg
      exact z_iconst (pc := 18) hK dX12_canTax_18 zc_i0 (z_zretP (pc := 19) hK rfl hE hg dX12_canTax_19)
    · rw [if_neg c_3] at hg
      exact z_iconst (pc := 14) hK dX12_canTax_14 zc_i1 (z_goto (pc := 15) hK 19 dX12_canTax_15 (by decide) (z_zretP (pc := 19) hK rfl hE hg dX12_canTax_19))
theorem m_X12_canTax {l : Launch} {G : zG} (hG : zD G) {h : zH} {t0 : Nat} {x1 : Int32} (ht0 : zT t0 = (11, 0)) {r : Bool} (hg : g_X12_canTax h t0 x1 = some r) : zM l G yX12_canTax cX12_canTax 2 (some .boolean) 0 0 [.ref (G.2.2.2 t0), .int x1] h (some (.int (zb r))) h :=
  zM_of hG pn_X12 (Nat.le_of_ble_eq_true rfl) (fun K _ hK hE => b_X12_canTax hK ht0 hE hg)
theorem dX12_taxes_0 : decode cX12_taxes 0 = .ok (.iconst 0, 1) := by decide +kernel
theorem dX12_taxes_1 : decode cX12_taxes 1 = .ok (.istore_n 2, 1) := by decide +kernel
theorem dX12_taxes_2 : decode cX12_taxes 2 = .ok (.iconst 0, 1) := by decide +kernel
theorem dX12_taxes_3 : decode cX12_taxes 3 = .ok (.istore_n 3, 1) := by decide +kernel
theorem dX12_taxes_4 : decode cX12_taxes 4 = .ok (.iload_n 3, 1) := by decide +kernel
theorem dX12_taxes_5 : decode cX12_taxes 5 = .ok (.aload_n 0, 1) := by decide +kernel
theorem dX12_taxes_6 : decode cX12_taxes 6 = .ok (.getfield 13, 3) := by decide +kernel
theorem dX12_taxes_9 : decode cX12_taxes 9 = .ok (.iconst 0, 1) := by decide +kernel
theorem dX12_taxes_10 : decode cX12_taxes 10 = .ok (.iaload, 1) := by decide +kernel
theorem dX12_taxes_11 : decode cX12_taxes 11 = .ok (.if_icmp .ge 112, 3) := by decide +kernel
theorem dX12_taxes_14 : decode cX12_taxes 14 = .ok (.iload_n 3, 1) := by decide +kernel
theorem dX12_taxes_15 : decode cX12_taxes 15 = .ok (.iload_n 1, 1) := by decide +kernel
theorem dX12_taxes_16 : decode cX12_taxes 16 = .ok (.if_icmp .eq 101, 3) := by decide +kernel
theorem dX12_taxes_19 : decode cX12_taxes 19 = .ok (.aload_n 0, 1) := by decide +kernel
theorem dX12_taxes_20 : decode cX12_taxes 20 = .ok (.iload_n 3, 1) := by decide +kernel
theorem dX12_taxes_21 : decode cX12_taxes 21 = .ok (.invokevirtual 350, 3) := by decide +kernel
theorem dX12_taxes_24 : decode cX12_taxes 24 = .ok (.ifCond .ne 6, 3) := by decide +kernel
theorem dX12_taxes_27 : decode cX12_taxes 27 = .ok (.goto 90, 3) := by decide +kernel
theorem dX12_taxes_30 : decode cX12_taxes 30 = .ok (.aload_n 0, 1) := by decide +kernel
theorem dX12_taxes_31 : decode cX12_taxes 31 = .ok (.getfield 105, 3) := by decide +kernel
theorem dX12_taxes_34 : decode cX12_taxes 34 = .ok (.bipush 9, 2) := by decide +kernel
theorem dX12_taxes_36 : decode cX12_taxes 36 = .ok (.bipush 7, 2) := by decide +kernel
theorem dX12_taxes_38 : decode cX12_taxes 38 = .ok (.iload_n 3, 1) := by decide +kernel
theorem dX12_taxes_39 : decode cX12_taxes 39 = .ok (.imul, 1) := by decide +kernel
theorem dX12_taxes_40 : decode cX12_taxes 40 = .ok (.iadd, 1) := by decide +kernel
theorem dX12_taxes_41 : decode cX12_taxes 41 = .ok (.iload_n 1, 1) := by decide +kernel
theorem dX12_taxes_42 : decode cX12_taxes 42 = .ok (.iadd, 1) := by decide +kernel
theorem dX12_taxes_43 : decode cX12_taxes 43 = .ok (.iaload, 1) := by decide +kernel
theorem dX12_taxes_44 : decode cX12_taxes 44 = .ok (.istore 4, 2) := by decide +kernel
theorem dX12_taxes_46 : decode cX12_taxes 46 = .ok (.aload_n 0, 1) := by decide +kernel
theorem dX12_taxes_47 : decode cX12_taxes 47 = .ok (.getfield 105, 3) := by decide +kernel
theorem dX12_taxes_50 : decode cX12_taxes 50 = .ok (.bipush 9, 2) := by decide +kernel
theorem dX12_taxes_52 : decode cX12_taxes 52 = .ok (.bipush 7, 2) := by decide +kernel
theorem dX12_taxes_54 : decode cX12_taxes 54 = .ok (.iload_n 3, 1) := by decide +kernel
theorem dX12_taxes_55 : decode cX12_taxes 55 = .ok (.imul, 1) := by decide +kernel
theorem dX12_taxes_56 : decode cX12_taxes 56 = .ok (.iadd, 1) := by decide +kernel
theorem dX12_taxes_57 : decode cX12_taxes 57 = .ok (.iload_n 1, 1) := by decide +kernel
theorem dX12_taxes_58 : decode cX12_taxes 58 = .ok (.iadd, 1) := by decide +kernel
theorem dX12_taxes_59 : decode cX12_taxes 59 = .ok (.bipush 9, 2) := by decide +kernel
theorem dX12_taxes_61 : decode cX12_taxes 61 = .ok (.iload 4, 2) := by decide +kernel
theorem dX12_taxes_63 : decode cX12_taxes 63 = .ok (.aload_n 0, 1) := by decide +kernel
theorem dX12_taxes_64 : decode cX12_taxes 64 = .ok (.iconst 0, 1) := by decide +kernel
theorem dX12_taxes_65 : decode cX12_taxes 65 = .ok (.iload_n 3, 1) := by decide +kernel
theorem dX12_taxes_66 : decode cX12_taxes 66 = .ok (.iload_n 1, 1) := by decide +kernel
theorem dX12_taxes_67 : decode cX12_taxes 67 = .ok (.aload_n 0, 1) := by decide +kernel
theorem dX12_taxes_68 : decode cX12_taxes 68 = .ok (.getfield 26, 3) := by decide +kernel
theorem dX12_taxes_71 : decode cX12_taxes 71 = .ok (.iload_n 3, 1) := by decide +kernel
theorem dX12_taxes_72 : decode cX12_taxes 72 = .ok (.iaload, 1) := by decide +kernel
theorem dX12_taxes_73 : decode cX12_taxes 73 = .ok (.iconst 4, 1) := by decide +kernel
theorem dX12_taxes_74 : decode cX12_taxes 74 = .ok (.if_icmp .le 7, 3) := by decide +kernel
theorem dX12_taxes_77 : decode cX12_taxes 77 = .ok (.iconst 2, 1) := by decide +kernel
theorem dX12_taxes_78 : decode cX12_taxes 78 = .ok (.goto 4, 3) := by decide +kernel
theorem dX12_taxes_81 : decode cX12_taxes 81 = .ok (.iconst 1, 1) := by decide +kernel
theorem dX12_taxes_82 : decode cX12_taxes 82 = .ok (.invokevirtual 369, 3) := by decide +kernel
theorem dX12_taxes_85 : decode cX12_taxes 85 = .ok (.iadd, 1) := by decide +kernel
theorem dX12_taxes_86 : decode cX12_taxes 86 = .ok (.invokestatic 373, 3) := by decide +kernel
theorem dX12_taxes_89 : decode cX12_taxes 89 = .ok (.iastore, 1) := by decide +kernel
theorem dX12_taxes_90 : decode cX12_taxes 90 = .ok (.iload_n 2, 1) := by decide +kernel
theorem dX12_taxes_91 : decode cX12_taxes 91 = .ok (.aload_n 0, 1) := by decide +kernel
theorem dX12_taxes_92 : decode cX12_taxes 92 = .ok (.getfield 105, 3) := by decide +kernel
theorem dX12_taxes_95 : decode cX12_taxes 95 = .ok (.bipush 9, 2) := by decide +kernel
theorem dX12_taxes_97 : decode cX12_taxes 97 = .ok (.bipush 7, 2) := by decide +kernel
theorem dX12_taxes_99 : decode cX12_taxes 99 = .ok (.iload_n 3, 1) := by decide +kernel
theorem dX12_taxes_100 : decode cX12_taxes 100 = .ok (.imul, 1) := by decide +kernel
theorem dX12_taxes_101 : decode cX12_taxes 101 = .ok (.iadd, 1) := by decide +kernel
theorem dX12_taxes_102 : decode cX12_taxes 102 = .ok (.iload_n 1, 1) := by decide +kernel
theorem dX12_taxes_103 : decode cX12_taxes 103 = .ok (.iadd, 1) := by decide +kernel
theorem dX12_taxes_104 : decode cX12_taxes 104 = .ok (.iaload, 1) := by decide +kernel
theorem dX12_taxes_105 : decode cX12_taxes 105 = .ok (.iload 4, 2) := by decide +kernel
theorem dX12_taxes_107 : decode cX12_taxes 107 = .ok (.if_icmp .le 7, 3) := by decide +kernel
theorem dX12_taxes_110 : decode cX12_taxes 110 = .ok (.iconst 1, 1) := by decide +kernel
theorem dX12_taxes_111 : decode cX12_taxes 111 = .ok (.goto 4, 3) := by decide +kernel
theorem dX12_taxes_114 : decode cX12_taxes 114 = .ok (.iconst 0, 1) := by decide +kernel
theorem dX12_taxes_115 : decode cX12_taxes 115 = .ok (.iadd, 1) := by decide +kernel
theorem dX12_taxes_116 : decode cX12_taxes 116 = .ok (.istore_n 2, 1) := by decide +kernel
theorem dX12_taxes_117 : decode cX12_taxes 117 = .ok (.iinc 3 1, 3) := by decide +kernel
theorem dX12_taxes_120 : decode cX12_taxes 120 = .ok (.goto (-116), 3) := by decide +kernel
theorem dX12_taxes_123 : decode cX12_taxes 123 = .ok (.iload_n 2, 1) := by decide +kernel
theorem dX12_taxes_124 : decode cX12_taxes 124 = .ok (.ireturn, 1) := by decide +kernel
def g_X12_taxes_82 (t0 : Nat) (k4 : Int32 → Int32 → Int32 → zH → Option (Int32 × zH)) (x1 : Int32) (x2 : Int32) (x3 : Int32) (x4 : Int32) (s0 : Int32) (s1 : Int32) (s2 : Int32) (s3 : Int32) (s5 : Int32) (s6 : Int32) (s7 : Int32) (h : zH) : Option (Int32 × zH) := (g_X12_lawOf h t0 s3 s2 s1 s0).bind fun v_10 => zgu (zin s7 107) <| zlet (zpi v_10.2 (zR t0 44) (zx s7) (if (s5 + v_10.1) < s6 then (s5 + v_10.1) else s6)) fun h_12 => zgu (zin ((9 + (7 * x3)) + x1) 107) <| if (h_12.1 (zR t0 44) (zx ((9 + (7 * x3)) + x1))) ≤ x4 then (k4 x1 (x2 + 0) (x3 + 1) h_12) else (k4 x1 (x2 + 1) (x3 + 1) h_12)
def g_X12_taxes_4 (t0 : Nat)  : Nat → Int32 → Int32 → Int32 → zH → Option (Int32 × zH)
  | 0, _, _, _, _ => none
  | n + 1, x1, x2, x3, h => zgu (zin 0 8) <| if (h.1 (zR t0 10) (zx 0)) ≤ x3 then (some (x2, h)) else (if x3 = x1 then (g_X12_taxes_4 t0 n x1 x2 (x3 + 1) h) else ((g_X12_isAlive h t0 x3).bind fun v_4 => if (zb v_4) = 0 then (g_X12_taxes_4 t0 n x1 x2 (x3 + 1) h) else (zgu (zin ((9 + (7 * x3)) + x1) 107) <| zlet (h.1 (zR t0 44) (zx ((9 + (7 * x3)) + x1))) fun v_7 => zgu (zin x3 14) <| if (h.1 (zR t0 14) (zx x3)) ≤ 4 then (g_X12_taxes_82 t0 (g_X12_taxes_4 t0 n) x1 x2 x3 v_7 1 x1 x3 0 v_7 9 ((9 + (7 * x3)) + x1) h) else (g_X12_taxes_82 t0 (g_X12_taxes_4 t0 n) x1 x2 x3 v_7 2 x1 x3 0 v_7 9 ((9 + (7 * x3)) + x1) h))))
def g_X12_taxes (h : zH) (t0 : Nat) (x1 : Int32) : Option (Int32 × zH) := g_X12_taxes_4 t0 zfu x1 0 0 h
set_option maxRecDepth 100000 in
set_option maxHeartbeats 4000000 in
theorem b_X12_taxes_82 {K : zK} {G : zG} (hK : zC K G cX12_taxes RX12 5 4 92 (some .int)) {t0 : Nat} (ht0 : zT t0 = (11, 0)) {r : Int32 × zH} (hE : zE K G (some (.int r.1)) r.2) {k4 : Int32 → Int32 → Int32 → zH → Option (Int32 × zH)} (hk4 : ∀ (x1 : Int32) (x2 : Int32) (x3 : Int32) (h : zH), k4 x1 x2 x3 h = some r → zW K G 5 4 [(0, .ref (G.2.2.2 t0)), (1, .int x1), (2, .int x2), (3, .int x3)] [] h) (x1 : Int32) (x2 : Int32) (x3 : Int32) (x4 : Int32) (s0 : Int32) (s1 : Int32) (s2 : Int32) (s3 : Int32) (s5 : Int32) (s6 : Int32) (s7 : Int32) (h : zH) (hg : g_X12_taxes_82 t0 k4 x1 x2 x3 x4 s0 s1 s2 s3 s5 s6 s7 h = some r) : zW K G 5 82 [(0, .ref (G.2.2.2 t0)), (1, .int x1), (2, .int x2), (3, .int x3), (4, .int x4)] [.int s0, .int s1, .int s2, .int s3, .ref (G.2.2.2 t0), .int s5, .int s6, .int s7, .ref (G.2.2.2 (zR t0 44))] h := by
  rw [g_X12_taxes_82] at hg
  obtain ⟨v_10, qv_10, hg⟩ := zbind_some hg
  obtain ⟨c_11, hg⟩ := zgu_some hg
  obtain ⟨h_12, eh_12, hg⟩ := zlet_some hg
  obtain ⟨c_13, hg⟩ := zgu_some hg
  refine z_callVi (pc := 82) hK [.int s3, .int s2, .int s1, .int s0] (m_X12_lawOf (zC_D hK) ht0 qv_10) sv_X12_lawOf q_1683 ht0 rfl [.int s5, .int s6, .int s7, .ref (G.2.2.2 (zR t0 44))] rfl (Nat.le_of_ble_eq_true rfl) ⟨by decide, by decide⟩ dX12_taxes_82 (z_iadd (pc := 85) hK dX12_taxes_85 (z_mmin (pc := 86) hK q_1706 zw_min ⟨by decide, Nat.le_of_ble_eq_true rfl⟩ dX12_taxes_86 (z_iast (pc := 89) hK (zt_11_44 ht0) c_11 dX12_taxes_89 (z_nameH eh_12 (z_iload_n (pc := 90) hK 2 dX12_taxes_90 rfl (z_aload_n (pc := 91) hK 0 dX12_taxes_91 rfl (z_getR (pc := 92) hK f_X12_105_11 ht0 dX12_taxes_92 (z_bipush (pc := 95) hK dX12_taxes_95 zc_b9 (z_bipush (pc := 97) hK dX12_taxes_97 zc_b7 (z_iload_n (pc := 99) hK 3 dX12_taxes_99 rfl (z_imul (pc := 100) hK dX12_taxes_100 (z_iadd (pc := 101) hK dX12_taxes_101 (z_iload_n (pc := 102) hK 1 dX12_taxes_102 rfl (z_iadd (pc := 103) hK dX12_taxes_103 (z_iald (pc := 104) hK (zt_11_44 ht0) c_13 dX12_taxes_104 (z_iload (pc := 105) hK 4 dX12_taxes_105 rfl (z_icmp_le (pc := 107) hK 114 dX12_taxes_107 (by decide) (fun c_14 => ?_) (fun c_14 => ?_))))))))))))))))))
  · rw [if_pos c_14] at hg
    exact z_iconst (pc := 114) hK dX12_taxes_114 zc_i0 (z_iadd (pc := 115) hK dX12_taxes_115 (z_istore_n (pc := 116) hK (lv' := [(2, .int (x2 + 0)), (0, .ref (G.2.2.2 t0)), (1, .int x1), (3, .int x3), (4, .int x4)]) dX12_taxes_116 (by decide) rfl (z_iinc (pc := 117) hK 3 (lv' := [(3, .int (x3 + 1)), (2, .int (x2 + 0)), (0, .ref (G.2.2.2 t0)), (1, .int x1), (4, .int x4)]) dX12_taxes_117 rfl (zc_n1 _) (by decide) rfl (z_goto (pc := 120) hK 4 dX12_taxes_120 (by decide) (zsub (lv' := [(0, .ref (G.2.2.2 t0)), (1, .int x1), (2, .int (x2 + 0)), (3, .int (x3 + 1))]) [2, 3, 1, 0] rfl (hk4 x1 (x2 + 0) (x3 + 1) h_12 hg))))))
  · rw [if_neg c_14] at hg
    exact z_iconst (pc := 110) hK dX12_taxes_110 zc_i1 (z_goto (pc := 111) hK 115 dX12_taxes_111 (by decide) (z_iadd (pc := 115) hK dX12_taxes_115 (z_istore_n (pc := 116) hK (lv' := [(2, .int (x2 + 1)), (0, .ref (G.2.2.2 t0)), (1, .int x1), (3, .int x3), (4, .int x4)]) dX12_taxes_116 (by decide) rfl (z_iinc (pc := 117) hK 3 (lv' := [(3, .int (x3 + 1)), (2, .int (x2 + 1)), (0, .ref (G.2.2.2 t0)), (1, .int x1), (4, .int x4)]) dX12_taxes_117 rfl (zc_n1 _) (by decide) rfl (z_goto (pc := 120) hK 4 dX12_taxes_120 (by decide) (zsub (lv' := [(0, .ref (G.2.2.2 t0)), (1, .int x1), (2, .int (x2 + 1)), (3, .int (x3 + 1))]) [2, 3, 1, 0] rfl (hk4 x1 (x2 + 1) (x3 + 1) h_12 hg)))))))
set_option maxRecDepth 100000 in
set_option maxHeartbeats 4000000 in
theorem b_X12_taxes_4 {K : zK} {G : zG} (hK : zC K G cX12_taxes RX12 5 4 92 (some .int)) {t0 : Nat} (ht0 : zT t0 = (11, 0)) {r : Int32 × zH} (hE : zE K G (some (.int r.1)) r.2) : ∀ (n : Nat) (x1 : Int32) (x2 : Int32) (x3 : Int32) (h : zH), g_X12_taxes_4 t0 n x1 x2 x3 h = some r → zW K G 5 4 [(0, .ref (G.2.2.2 t0)), (1, .int x1), (2, .int x2), (3, .int x3)] [] h := by
  intro n
  induction n with
  | zero => intro x1 x2 x3 h hg; exact nomatch (show none = some r from hg)
  | succ n ih =>
    intro x1 x2 x3 h hg
    rw [g_X12_taxes_4] at hg
    obtain ⟨c_1, hg⟩ := zgu_some hg
    refine z_iload_n (pc := 4) hK 3 dX12_taxes_4 rfl (z_aload_n (pc := 5) hK 0 dX12_taxes_5 rfl (z_getR (pc := 6) hK f_X12_13_11 ht0 dX12_taxes_6 (z_iconst (pc := 9) hK dX12_taxes_9 zc_i0 (z_iald (pc := 10) hK (zt_11_10 ht0) c_1 dX12_taxes_10 (z_icmp_ge (pc := 11) hK 123 dX12_taxes_11 (by decide) (fun c_2 => ?_) (fun c_2 => ?_))))))
    · rw [if_pos c_2] at hg
      exact z_iload_n (pc := 123) hK 2 dX12_taxes_123 rfl (z_iretE (pc := 124) hK hE hg dX12_taxes_124)
    · rw [if_neg c_2] at hg
      refine z_iload_n (pc := 14) hK 3 dX12_taxes_14 rfl (z_iload_n (pc := 15) hK 1 dX12_taxes_15 rfl (z_icmp_eq (pc := 16) hK 117 dX12_taxes_16 (by decide) (fun c_3 => ?_) (fun c_3 => ?_)))
      · rw [if_pos c_3] at hg
        exact z_iinc (pc := 117) hK 3 (lv' := [(3, .int (x3 + 1)), (0, .ref (G.2.2.2 t0)), (1, .int x1), (2, .int x2)]) dX12_taxes_117 rfl (zc_n1 _) (by decide) rfl (z_goto (pc := 120) hK 4 dX12_taxes_120 (by decide) (zsub (lv' := [(0, .ref (G.2.2.2 t0)), (1, .int x1), (2, .int x2), (3, .int (x3 + 1))]) [1, 2, 3, 0] rfl (ih x1 x2 (x3 + 1) h hg)))
      · rw [if_neg c_3] at hg
        obtain ⟨v_4, qv_4, hg⟩ := zbind_some hg
        refine z_aload_n (pc := 19) hK 0 dX12_taxes_19 rfl (z_iload_n (pc := 20) hK 3 dX12_taxes_20 rfl (z_callVi (pc := 21) hK [.int x3] (m_X12_isAlive (zC_D hK) ht0 qv_4) sv_X12_isAlive q_1628 ht0 rfl [] rfl (Nat.le_of_ble_eq_true rfl) ⟨by decide, by decide⟩ dX12_taxes_21 (z_if_ne (pc := 24) hK 30 dX12_taxes_24 (by decide) (fun c_5 => ?_) (fun c_5 => ?_))))
        · rw [if_neg c_5] at hg
          obtain ⟨c_6, hg⟩ := zgu_some hg
          obtain ⟨v_7, ev_7, hg⟩ := zlet_some hg
          obtain ⟨c_8, hg⟩ := zgu_some hg
          refine z_aload_n (pc := 30) hK 0 dX12_taxes_30 rfl (z_getR (pc := 31) hK f_X12_105_11 ht0 dX12_taxes_31 (z_bipush (pc := 34) hK dX12_taxes_34 zc_b9 (z_bipush (pc := 36) hK dX12_taxes_36 zc_b7 (z_iload_n (pc := 38) hK 3 dX12_taxes_38 rfl (z_imul (pc := 39) hK dX12_taxes_39 (z_iadd (pc := 40) hK dX12_taxes_40 (z_iload_n (pc := 41) hK 1 dX12_taxes_41 rfl (z_iadd (pc := 42) hK dX12_taxes_42 (z_iald (pc := 43) hK (zt_11_44 ht0) c_6 dX12_taxes_43 (z_nameI ev_7 (z_istore (pc := 44) hK (lv' := [(4, .int v_7), (0, .ref (G.2.2.2 t0)), (1, .int x1), (2, .int x2), (3, .int x3)]) dX12_taxes_44 (by decide) rfl (z_aload_n (pc := 46) hK 1 dX12_taxes_46 rfl (z_getR (pc := 47) hK f_X12_105_11 ht0 dX12_taxes_47 (z_bipush (pc := 50) hK dX12_taxes_50 zc_b9 (z_bipush (pc := 52) hK dX12_taxes_52 zc_b7 (z_iload_n (pc := 54) hK 4 dX12_taxes_54 rfl (z_imul (pc := 55) hK dX12_taxes_55 (z_iadd (pc := 56) hK dX12_taxes_56 (z_iload_n (pc := 57) hK 2 dX12_taxes_57 rfl (z_iadd (pc := 58) hK dX12_taxes_58 (z_bipush (pc := 59) hK dX12_taxes_59 zc_b9 (z_iload (pc := 61) hK 0 dX12_taxes_61 rfl (z_aload_n (pc := 63) hK 1 dX12_taxes_63 rfl (z_iconst (pc := 64) hK dX12_taxes_64 zc_i0 (z_iload_n (pc := 65) hK 4 dX12_taxes_65 rfl (z_iload_n (pc := 66) hK 2 dX12_taxes_66 rfl (z_aload_n (pc := 67) hK 1 dX12_taxes_67 rfl (z_getR (pc := 68) hK f_X12_26_11 ht0 dX12_taxes_68 (z_iload_n (pc := 71) hK 4 dX12_taxes_71 rfl (z_iald (pc := 72) hK (zt_11_14 ht0) c_8 dX12_taxes_72 (z_iconst (pc := 73) hK dX12_taxes_73 zc_i4 (z_icmp_le (pc := 74) hK 81 dX12_taxes_74 (by decide) (fun c_9 => ?_) (fun c_9 => ?_)))))))))))))))))))))))))))))))))
          · rw [if_pos c_9] at hg
            exact z_iconst (pc := 81) hK dX12_taxes_81 zc_i1 (zsub (lv' := [(0, .ref (G.2.2.2 t0)), (1, .int x1), (2, .int x2), (3, .int x3), (4, .int v_7)]) [1, 2, 3, 4, 0] rfl (b_X12_taxes_82 hK ht0 hE ih x1 x2 x3 v_7 1 x1 x3 0 v_7 9 ((9 + (7 * x3)) + x1) h hg))
          · rw [if_neg c_9] at hg
            exact z_iconst (pc := 77) hK dX12_taxes_77 zc_i2 (z_goto (pc := 78) hK 82 dX12_taxes_78 (by decide) (zsub (lv' := [(0, .ref (G.2.2.2 t0)), (1, .int x1), (2, .int x2), (3, .int x3), (4, .int v_7)]) [1, 2, 3, 4, 0] rfl (b_X12_taxes_82 hK ht0 hE ih x1 x2 x3 v_7 2 x1 x3 0 v_7 9 ((9 + (7 * x3)) + x1) h hg)))
        · rw [if_pos c_5] at hg
          exact z_goto (pc := 27) hK 117 dX12_taxes_27 (by decide) (z_iinc (pc := 117) hK 3 (lv' := [(3, .int (x3 + 1)), (0, .ref (G.2.2.2 t0)), (1, .int x1), (2, .int x2)]) dX12_taxes_117 rfl (zc_n1 _) (by decide) rfl (z_goto (pc := 120) hK 4 dX12_taxes_120 (by decide) (zsub (lv' := [(0, .ref (G.2.2.2 t0)), (1, .int x1), (2, .int x2), (3, .int (x3 + 1))]) [1, 2, 3, 0] rfl (ih x1 x2 (x3 + 1) h hg))))
set_option maxRecDepth 100000 in
set_option maxHeartbeats 4000000 in
theorem b_X12_taxes {K : zK} {G : zG} (hK : zC K G cX12_taxes RX12 5 4 92 (some .int)) {h : zH} {t0 : Nat} {x1 : Int32} (ht0 : zT t0 = (11, 0)) {r : Int32 × zH} (hE : zE K G (some (.int r.1)) r.2) (hg : g_X12_taxes h t0 x1 = some r) : zW K G 5 0 [(0, .ref (G.2.2.2 t0)), (1, .int x1)] [] h := by
  rw [g_X12_taxes] at hg
  exact z_iconst (pc := 0) hK dX12_taxes_0 zc_i0 (z_istore_n (pc := 1) hK (lv' := [(2, .int 0), (0, .ref (G.2.2.2 t0)), (1, .int x1)]) dX12_taxes_1 (by decide) rfl (z_iconst (pc := 2) hK dX12_taxes_2 zc_i0 (z_istore_n (pc := 3) hK (lv' := [(3, .int 0), (2, .int 0), (0, .ref (G.2.2.2 t0)), (1, .int x1)]) dX12_taxes_3 (by decide) rfl (zsub (lv' := [(0, .ref (G.2.2.2 t0)), (1, .int x1), (2, .int 0), (3, .int 0)]) [2, 3, 1, 0] rfl (b_X12_taxes_4 hK ht0 hE zfu x1 0 0 h hg)))))
theorem m_X12_taxes {l : Launch} {G : zG} (hG : zD G) {h : zH} {t0 : Nat} {x1 : Int32} (ht0 : zT t0 = (11, 0)) {r : Int32 × zH} (hg : g_X12_taxes h t0 x1 = some r) : zM l G yX12_taxes cX12_taxes 5 (some .int) 4 92 [.ref (G.2.2.2 t0), .int x1] h (some (.int r.1)) r.2 :=
  zM_of hG pn_X12 (Nat.le_of_ble_eq_true rfl) (fun K _ hK hE => b_X12_taxes hK ht0 hE hg)
theorem dX12_taxesIfCan_0 : decode cX12_taxesIfCan 0 = .ok (.aload_n 0, 1) := by decide +kernel
theorem dX12_taxesIfCan_1 : decode cX12_taxesIfCan 1 = .ok (.invokevirtual 379, 3) := by decide +kernel
theorem dX12_taxesIfCan_4 : decode cX12_taxesIfCan 4 = .ok (.istore_n 1, 1) := by decide +kernel
theorem dX12_taxesIfCan_5 : decode cX12_taxesIfCan 5 = .ok (.aload_n 0, 1) := by decide +kernel
theorem dX12_taxesIfCan_6 : decode cX12_taxesIfCan 6 = .ok (.iload_n 1, 1) := by decide +kernel
theorem dX12_taxesIfCan_7 : decode cX12_taxesIfCan 7 = .ok (.invokevirtual 382, 3) := by decide +kernel
theorem dX12_taxesIfCan_10 : decode cX12_taxesIfCan 10 = .ok (.ifCond .eq 9, 3) := by decide +kernel
theorem dX12_taxesIfCan_13 : decode cX12_taxesIfCan 13 = .ok (.aload_n 0, 1) := by decide +kernel
theorem dX12_taxesIfCan_14 : decode cX12_taxesIfCan 14 = .ok (.iload_n 1, 1) := by decide +kernel
theorem dX12_taxesIfCan_15 : decode cX12_taxesIfCan 15 = .ok (.invokevirtual 385, 3) := by decide +kernel
theorem dX12_taxesIfCan_18 : decode cX12_taxesIfCan 18 = .ok (.pop, 1) := by decide +kernel
theorem dX12_taxesIfCan_19 : decode cX12_taxesIfCan 19 = .ok (.return_, 1) := by decide +kernel
def g_X12_taxesIfCan (h : zH) (t0 : Nat) : Option zH := (g_X12_governor h t0).bind fun v_1 => (g_X12_canTax h t0 v_1).bind fun v_2 => if (zb v_2) = 0 then (some h) else ((g_X12_taxes h t0 v_1).bind fun v_4 => some v_4.2)
set_option maxRecDepth 100000 in
set_option maxHeartbeats 4000000 in
theorem b_X12_taxesIfCan {K : zK} {G : zG} (hK : zC K G cX12_taxesIfCan RX12 2 5 116 none) {h : zH} {t0 : Nat} (ht0 : zT t0 = (11, 0)) {r : zH} (hE : zE K G (none) r) (hg : g_X12_taxesIfCan h t0 = some r) : zW K G 2 0 [(0, .ref (G.2.2.2 t0))] [] h := by
  rw [g_X12_taxesIfCan] at hg
  obtain ⟨v_1, qv_1, hg⟩ := zbind_some hg
  obtain ⟨v_2, qv_2, hg⟩ := zbind_some hg
  refine z_aload_n (pc := 0) hK 0 dX12_taxesIfCan_0 rfl (z_callVi (pc := 1) hK [] (m_X12_governor (zC_D hK) ht0 qv_1) sv_X12_governor q_1652 ht0 rfl [] rfl (Nat.le_of_ble_eq_true rfl) ⟨by decide, by decide⟩ dX12_taxesIfCan_1 (z_istore_n (pc := 4) hK (lv' := [(1, .int v_1), (0, .ref (G.2.2.2 t0))]) dX12_taxesIfCan_4 (by decide) rfl (z_aload_n (pc := 5) hK 1 dX12_taxesIfCan_5 rfl (z_iload_n (pc := 6) hK 0 dX12_taxesIfCan_6 rfl (z_callVi (pc := 7) hK [.int v_1] (m_X12_canTax (zC_D hK) ht0 qv_2) sv_X12_canTax q_1668 ht0 rfl [] rfl (Nat.le_of_ble_eq_true rfl) ⟨by decide, by decide⟩ dX12_taxesIfCan_7 (z_if_eq (pc := 10) hK 19 dX12_taxesIfCan_10 (by decide) (fun c_3 => ?_) (fun c_3 => ?_)))))))
  · rw [if_pos c_3] at hg
    exact z_vretE (pc := 19) hK hE hg dX12_taxesIfCan_19
  · rw [if_neg c_3] at hg
    obtain ⟨v_4, qv_4, hg⟩ := zbind_some hg
    exact z_aload_n (pc := 13) hK 1 dX12_taxesIfCan_13 rfl (z_iload_n (pc := 14) hK 0 dX12_taxesIfCan_14 rfl (z_callVi (pc := 15) hK [.int v_1] (m_X12_taxes (zC_D hK) ht0 qv_4) sv_X12_taxes q_1679 ht0 rfl [] rfl (Nat.le_of_ble_eq_true rfl) ⟨by decide, by decide⟩ dX12_taxesIfCan_15 (z_pop (pc := 18) hK dX12_taxesIfCan_18 rfl (z_vretE (pc := 19) hK hE hg dX12_taxesIfCan_19))))
theorem m_X12_taxesIfCan {l : Launch} {G : zG} (hG : zD G) {h : zH} {t0 : Nat} (ht0 : zT t0 = (11, 0)) {r : zH} (hg : g_X12_taxesIfCan h t0 = some r) : zM l G yX12_taxesIfCan cX12_taxesIfCan 2 none 5 116 [.ref (G.2.2.2 t0)] h (none) r :=
  zM_of hG pn_X12 (Nat.le_of_ble_eq_true rfl) (fun K _ hK hE => b_X12_taxesIfCan hK ht0 hE hg)
theorem dX12_gives_0 : decode cX12_gives 0 = .ok (.aload_n 0, 1) := by decide +kernel
theorem dX12_gives_1 : decode cX12_gives 1 = .ok (.iconst 1, 1) := by decide +kernel
theorem dX12_gives_2 : decode cX12_gives 2 = .ok (.iload_n 2, 1) := by decide +kernel
theorem dX12_gives_3 : decode cX12_gives 3 = .ok (.iload_n 1, 1) := by decide +kernel
theorem dX12_gives_4 : decode cX12_gives 4 = .ok (.iconst 2, 1) := by decide +kernel
theorem dX12_gives_5 : decode cX12_gives 5 = .ok (.invokevirtual 369, 3) := by decide +kernel
theorem dX12_gives_8 : decode cX12_gives 8 = .ok (.istore_n 3, 1) := by decide +kernel
theorem dX12_gives_9 : decode cX12_gives 9 = .ok (.aload_n 0, 1) := by decide +kernel
theorem dX12_gives_10 : decode cX12_gives 10 = .ok (.getfield 105, 3) := by decide +kernel
theorem dX12_gives_13 : decode cX12_gives 13 = .ok (.bipush 9, 2) := by decide +kernel
theorem dX12_gives_15 : decode cX12_gives 15 = .ok (.bipush 7, 2) := by decide +kernel
theorem dX12_gives_17 : decode cX12_gives 17 = .ok (.iload_n 2, 1) := by decide +kernel
theorem dX12_gives_18 : decode cX12_gives 18 = .ok (.imul, 1) := by decide +kernel
theorem dX12_gives_19 : decode cX12_gives 19 = .ok (.iadd, 1) := by decide +kernel
theorem dX12_gives_20 : decode cX12_gives 20 = .ok (.iload_n 1, 1) := by decide +kernel
theorem dX12_gives_21 : decode cX12_gives 21 = .ok (.iadd, 1) := by decide +kernel
theorem dX12_gives_22 : decode cX12_gives 22 = .ok (.iconst 0, 1) := by decide +kernel
theorem dX12_gives_23 : decode cX12_gives 23 = .ok (.aload_n 0, 1) := by decide +kernel
theorem dX12_gives_24 : decode cX12_gives 24 = .ok (.getfield 105, 3) := by decide +kernel
theorem dX12_gives_27 : decode cX12_gives 27 = .ok (.bipush 9, 2) := by decide +kernel
theorem dX12_gives_29 : decode cX12_gives 29 = .ok (.bipush 7, 2) := by decide +kernel
theorem dX12_gives_31 : decode cX12_gives 31 = .ok (.iload_n 2, 1) := by decide +kernel
theorem dX12_gives_32 : decode cX12_gives 32 = .ok (.imul, 1) := by decide +kernel
theorem dX12_gives_33 : decode cX12_gives 33 = .ok (.iadd, 1) := by decide +kernel
theorem dX12_gives_34 : decode cX12_gives 34 = .ok (.iload_n 1, 1) := by decide +kernel
theorem dX12_gives_35 : decode cX12_gives 35 = .ok (.iadd, 1) := by decide +kernel
theorem dX12_gives_36 : decode cX12_gives 36 = .ok (.iaload, 1) := by decide +kernel
theorem dX12_gives_37 : decode cX12_gives 37 = .ok (.iload_n 3, 1) := by decide +kernel
theorem dX12_gives_38 : decode cX12_gives 38 = .ok (.isub, 1) := by decide +kernel
theorem dX12_gives_39 : decode cX12_gives 39 = .ok (.invokestatic 388, 3) := by decide +kernel
theorem dX12_gives_42 : decode cX12_gives 42 = .ok (.iastore, 1) := by decide +kernel
theorem dX12_gives_43 : decode cX12_gives 43 = .ok (.iload_n 3, 1) := by decide +kernel
theorem dX12_gives_44 : decode cX12_gives 44 = .ok (.ireturn, 1) := by decide +kernel
def g_X12_gives (h : zH) (t0 : Nat) (x1 : Int32) (x2 : Int32) : Option (Int32 × zH) := (g_X12_lawOf h t0 1 x2 x1 2).bind fun v_1 => zgu (zin ((9 + (7 * x2)) + x1) 107) <| zgu (zin ((9 + (7 * x2)) + x1) 107) <| zlet (zpi v_1.2 (zR t0 44) (zx ((9 + (7 * x2)) + x1)) (if 0 < ((v_1.2.1 (zR t0 44) (zx ((9 + (7 * x2)) + x1))) - v_1.1) then ((v_1.2.1 (zR t0 44) (zx ((9 + (7 * x2)) + x1))) - v_1.1) else 0)) fun h_4 => some (v_1.1, h_4)
set_option maxRecDepth 100000 in
set_option maxHeartbeats 4000000 in
theorem b_X12_gives {K : zK} {G : zG} (hK : zC K G cX12_gives RX12 4 4 92 (some .int)) {h : zH} {t0 : Nat} {x1 : Int32} {x2 : Int32} (ht0 : zT t0 = (11, 0)) {r : Int32 × zH} (hE : zE K G (some (.int r.1)) r.2) (hg : g_X12_gives h t0 x1 x2 = some r) : zW K G 4 0 [(0, .ref (G.2.2.2 t0)), (1, .int x1), (2, .int x2)] [] h := by
  rw [g_X12_gives] at hg
  obtain ⟨v_1, qv_1, hg⟩ := zbind_some hg
  obtain ⟨c_2, hg⟩ := zgu_some hg
  obtain ⟨c_3, hg⟩ := zgu_some hg
  obtain ⟨h_4, eh_4, hg⟩ := zlet_some hg
  exact z_aload_n (pc := 0) hK 0 dX12_gives_0 rfl (z_iconst (pc := 1) hK dX12_gives_1 zc_i1 (z_iload_n (pc := 2) hK 2 dX12_gives_2 rfl (z_iload_n (pc := 3) hK 1 dX12_gives_3 rfl (z_iconst (pc := 4) hK dX12_gives_4 zc_i2 (z_callVi (pc := 5) hK [.int 1, .int x2, .int x1, .int 2] (m_X12_lawOf (zC_D hK) ht0 qv_1) sv_X12_lawOf q_1683 ht0 rfl [] rfl (Nat.le_of_ble_eq_true rfl) ⟨by decide, by decide⟩ dX12_gives_5 (z_istore_n (pc := 8) hK (lv' := [(3, .int v_1.1), (0, .ref (G.2.2.2 t0)), (1, .int x1), (2, .int x2)]) dX12_gives_8 (by decide) rfl (z_aload_n (pc := 9) hK 1 dX12_gives_9 rfl (z_getR (pc := 10) hK f_X12_105_11 ht0 dX12_gives_10 (z_bipush (pc := 13) hK dX12_gives_13 zc_b9 (z_bipush (pc := 15) hK dX12_gives_15 zc_b7 (z_iload_n (pc := 17) hK 3 dX12_gives_17 rfl (z_imul (pc := 18) hK dX12_gives_18 (z_iadd (pc := 19) hK dX12_gives_19 (z_iload_n (pc := 20) hK 2 dX12_gives_20 rfl (z_iadd (pc := 21) hK dX12_gives_21 (z_iconst (pc := 22) hK dX12_gives_22 zc_i0 (z_aload_n (pc := 23) hK 1 dX12_gives_23 rfl (z_getR (pc := 24) hK f_X12_105_11 ht0 dX12_gives_24 (z_bipush (pc := 27) hK dX12_gives_27 zc_b9 (z_bipush (pc := 29) hK dX12_gives_29 zc_b7 (z_iload_n (pc := 31) hK 3 dX12_gives_31 rfl (z_imul (pc := 32) hK dX12_gives_32 (z_iadd (pc := 33) hK dX12_gives_33 (z_iload_n (pc := 34) hK 2 dX12_gives_34 rfl (z_iadd (pc := 35) hK dX12_gives_35 (z_iald (pc := 36) hK (zt_11_44 ht0) c_2 dX12_gives_36 (z_iload_n (pc := 37) hK 0 dX12_gives_37 rfl (z_isub (pc := 38) hK dX12_gives_38 (z_mmax (pc := 39) hK q_1719 zw_max ⟨by decide, Nat.le_of_ble_eq_true rfl⟩ dX12_gives_39 (z_iast (pc := 42) hK (zt_11_44 ht0) c_3 dX12_gives_42 (z_nameH eh_4 (z_iload_n (pc := 43) hK 0 dX12_gives_43 rfl (z_iretE (pc := 44) hK hE hg dX12_gives_44)))))))))))))))))))))))))))))))))
theorem m_X12_gives {l : Launch} {G : zG} (hG : zD G) {h : zH} {t0 : Nat} {x1 : Int32} {x2 : Int32} (ht0 : zT t0 = (11, 0)) {r : Int32 × zH} (hg : g_X12_gives h t0 x1 x2 = some r) : zM l G yX12_gives cX12_gives 4 (some .int) 4 92 [.ref (G.2.2.2 t0), .int x1, .int x2] h (some (.int r.1)) r.2 :=
  zM_of hG pn_X12 (Nat.le_of_ble_eq_true rfl) (fun K _ hK hE => b_X12_gives hK ht0 hE hg)
theorem dX12_casts_0 : decode cX12_casts 0 = .ok (.aload_n 0, 1) := by decide +kernel
theorem dX12_casts_1 : decode cX12_casts 1 = .ok (.getfield 105, 3) := by decide +kernel
theorem dX12_casts_4 : decode cX12_casts 4 = .ok (.iconst 2, 1) := by decide +kernel
theorem dX12_casts_5 : decode cX12_casts 5 = .ok (.iload_n 1, 1) := by decide +kernel
theorem dX12_casts_6 : decode cX12_casts 6 = .ok (.iadd, 1) := by decide +kernel
theorem dX12_casts_7 : decode cX12_casts 7 = .ok (.dup2, 1) := by decide +kernel
theorem dX12_casts_8 : decode cX12_casts 8 = .ok (.iaload, 1) := by decide +kernel
theorem dX12_casts_9 : decode cX12_casts 9 = .ok (.iconst 1, 1) := by decide +kernel
theorem dX12_casts_10 : decode cX12_casts 10 = .ok (.isub, 1) := by decide +kernel
theorem dX12_casts_11 : decode cX12_casts 11 = .ok (.iastore, 1) := by decide +kernel
theorem dX12_casts_12 : decode cX12_casts 12 = .ok (.aload_n 0, 1) := by decide +kernel
theorem dX12_casts_13 : decode cX12_casts 13 = .ok (.getfield 105, 3) := by decide +kernel
theorem dX12_casts_16 : decode cX12_casts 16 = .ok (.bipush 58, 2) := by decide +kernel
theorem dX12_casts_18 : decode cX12_casts 18 = .ok (.bipush 7, 2) := by decide +kernel
theorem dX12_casts_20 : decode cX12_casts 20 = .ok (.iload_n 1, 1) := by decide +kernel
theorem dX12_casts_21 : decode cX12_casts 21 = .ok (.imul, 1) := by decide +kernel
theorem dX12_casts_22 : decode cX12_casts 22 = .ok (.iadd, 1) := by decide +kernel
theorem dX12_casts_23 : decode cX12_casts 23 = .ok (.iload_n 2, 1) := by decide +kernel
theorem dX12_casts_24 : decode cX12_casts 24 = .ok (.iadd, 1) := by decide +kernel
theorem dX12_casts_25 : decode cX12_casts 25 = .ok (.dup2, 1) := by decide +kernel
theorem dX12_casts_26 : decode cX12_casts 26 = .ok (.iaload, 1) := by decide +kernel
theorem dX12_casts_27 : decode cX12_casts 27 = .ok (.iconst 1, 1) := by decide +kernel
theorem dX12_casts_28 : decode cX12_casts 28 = .ok (.iadd, 1) := by decide +kernel
theorem dX12_casts_29 : decode cX12_casts 29 = .ok (.iastore, 1) := by decide +kernel
theorem dX12_casts_30 : decode cX12_casts 30 = .ok (.return_, 1) := by decide +kernel
def g_X12_casts (h : zH) (t0 : Nat) (x1 : Int32) (x2 : Int32) : Option zH := zgu (zin (2 + x1) 107) <| zgu (zin (2 + x1) 107) <| zlet (zpi h (zR t0 44) (zx (2 + x1)) ((h.1 (zR t0 44) (zx (2 + x1))) - 1)) fun h_3 => zgu (zin ((58 + (7 * x1)) + x2) 107) <| zgu (zin ((58 + (7 * x1)) + x2) 107) <| zlet (zpi h_3 (zR t0 44) (zx ((58 + (7 * x1)) + x2)) ((h_3.1 (zR t0 44) (zx ((58 + (7 * x1)) + x2))) + 1)) fun h_6 => some h_6
set_option maxRecDepth 100000 in
set_option maxHeartbeats 4000000 in
theorem b_X12_casts {K : zK} {G : zG} (hK : zC K G cX12_casts RX12 3 0 0 none) {h : zH} {t0 : Nat} {x1 : Int32} {x2 : Int32} (ht0 : zT t0 = (11, 0)) {r : zH} (hE : zE K G (none) r) (hg : g_X12_casts h t0 x1 x2 = some r) : zW K G 3 0 [(0, .ref (G.2.2.2 t0)), (1, .int x1), (2, .int x2)] [] h := by
  rw [g_X12_casts] at hg
  obtain ⟨c_1, hg⟩ := zgu_some hg
  obtain ⟨c_2, hg⟩ := zgu_some hg
  obtain ⟨h_3, eh_3, hg⟩ := zlet_some hg
  obtain ⟨c_4, hg⟩ := zgu_some hg
  obtain ⟨c_5, hg⟩ := zgu_some hg
  obtain ⟨h_6, eh_6, hg⟩ := zlet_some hg
  exact z_aload_n (pc := 0) hK 0 dX12_casts_0 rfl (z_getR (pc := 1) hK f_X12_105_11 ht0 dX12_casts_1 (z_iconst (pc := 4) hK dX12_casts_4 zc_i2 (z_iload_n (pc := 5) hK 1 dX12_casts_5 rfl (z_iadd (pc := 6) hK dX12_casts_6 (z_dup2 (pc := 7) hK dX12_casts_7 rfl rfl (z_iald (pc := 8) hK (zt_11_44 ht0) c_1 dX12_casts_8 (z_iconst (pc := 9) hK dX12_casts_9 zc_i1 (z_isub (pc := 10) hK dX12_casts_10 (z_iast (pc := 11) hK (zt_11_44 ht0) c_2 dX12_casts_11 (z_nameH eh_3 (z_aload_n (pc := 12) hK 0 dX12_casts_12 rfl (z_getR (pc := 13) hK f_X12_105_11 ht0 dX12_casts_13 (z_bipush (pc := 16) hK dX12_casts_16 zc_b58 (z_bipush (pc := 18) hK dX12_casts_18 zc_b7 (z_iload_n (pc := 20) hK 1 dX12_casts_20 rfl (z_imul (pc := 21) hK dX12_casts_21 (z_iadd (pc := 22) hK dX12_casts_22 (z_iload_n (pc := 23) hK 2 dX12_casts_23 rfl (z_iadd (pc := 24) hK dX12_casts_24 (z_dup2 (pc := 25) hK dX12_casts_25 rfl rfl (z_iald (pc := 26) hK (zt_11_44 ht0) c_4 dX12_casts_26 (z_iconst (pc := 27) hK dX12_casts_27 zc_i1 (z_iadd (pc := 28) hK dX12_casts_28 (z_iast (pc := 29) hK (zt_11_44 ht0) c_5 dX12_casts_29 (z_nameH eh_6 (z_vretE (pc := 30) hK hE hg dX12_casts_30))))))))))))))))))))))))))
theorem m_X12_casts {l : Launch} {G : zG} (hG : zD G) {h : zH} {t0 : Nat} {x1 : Int32} {x2 : Int32} (ht0 : zT t0 = (11, 0)) {r : zH} (hg : g_X12_casts h t0 x1 x2 = some r) : zM l G yX12_casts cX12_casts 3 none 0 0 [.ref (G.2.2.2 t0), .int x1, .int x2] h (none) r :=
  zM_of hG pn_X12 (Nat.le_of_ble_eq_true rfl) (fun K _ hK hE => b_X12_casts hK ht0 hE hg)
theorem dX12_dies_0 : decode cX12_dies 0 = .ok (.aload_n 0, 1) := by decide +kernel
theorem dX12_dies_1 : decode cX12_dies 1 = .ok (.getfield 105, 3) := by decide +kernel
theorem dX12_dies_4 : decode cX12_dies 4 = .ok (.iconst 2, 1) := by decide +kernel
theorem dX12_dies_5 : decode cX12_dies 5 = .ok (.iload_n 1, 1) := by decide +kernel
theorem dX12_dies_6 : decode cX12_dies 6 = .ok (.iadd, 1) := by decide +kernel
theorem dX12_dies_7 : decode cX12_dies 7 = .ok (.iaload, 1) := by decide +kernel
theorem dX12_dies_8 : decode cX12_dies 8 = .ok (.istore_n 2, 1) := by decide +kernel
theorem dX12_dies_9 : decode cX12_dies 9 = .ok (.aload_n 0, 1) := by decide +kernel
theorem dX12_dies_10 : decode cX12_dies 10 = .ok (.getfield 29, 3) := by decide +kernel
theorem dX12_dies_13 : decode cX12_dies 13 = .ok (.iload_n 1, 1) := by decide +kernel
theorem dX12_dies_14 : decode cX12_dies 14 = .ok (.iaload, 1) := by decide +kernel
theorem dX12_dies_15 : decode cX12_dies 15 = .ok (.istore_n 3, 1) := by decide +kernel
theorem dX12_dies_16 : decode cX12_dies 16 = .ok (.aload_n 0, 1) := by decide +kernel
theorem dX12_dies_17 : decode cX12_dies 17 = .ok (.getfield 105, 3) := by decide +kernel
theorem dX12_dies_20 : decode cX12_dies 20 = .ok (.iconst 1, 1) := by decide +kernel
theorem dX12_dies_21 : decode cX12_dies 21 = .ok (.dup2, 1) := by decide +kernel
theorem dX12_dies_22 : decode cX12_dies 22 = .ok (.iaload, 1) := by decide +kernel
theorem dX12_dies_23 : decode cX12_dies 23 = .ok (.iconst 1, 1) := by decide +kernel
theorem dX12_dies_24 : decode cX12_dies 24 = .ok (.iload_n 1, 1) := by decide +kernel
theorem dX12_dies_25 : decode cX12_dies 25 = .ok (.ishl, 1) := by decide +kernel
theorem dX12_dies_26 : decode cX12_dies 26 = .ok (.iconst (-1), 1) := by decide +kernel
theorem dX12_dies_27 : decode cX12_dies 27 = .ok (.ixor, 1) := by decide +kernel
theorem dX12_dies_28 : decode cX12_dies 28 = .ok (.iand, 1) := by decide +kernel
theorem dX12_dies_29 : decode cX12_dies 29 = .ok (.iastore, 1) := by decide +kernel
theorem dX12_dies_30 : decode cX12_dies 30 = .ok (.aload_n 0, 1) := by decide +kernel
theorem dX12_dies_31 : decode cX12_dies 31 = .ok (.getfield 105, 3) := by decide +kernel
theorem dX12_dies_34 : decode cX12_dies 34 = .ok (.iconst 2, 1) := by decide +kernel
theorem dX12_dies_35 : decode cX12_dies 35 = .ok (.iload_n 1, 1) := by decide +kernel
theorem dX12_dies_36 : decode cX12_dies 36 = .ok (.iadd, 1) := by decide +kernel
theorem dX12_dies_37 : decode cX12_dies 37 = .ok (.iconst 0, 1) := by decide +kernel
theorem dX12_dies_38 : decode cX12_dies 38 = .ok (.iastore, 1) := by decide +kernel
theorem dX12_dies_39 : decode cX12_dies 39 = .ok (.iload_n 3, 1) := by decide +kernel
theorem dX12_dies_40 : decode cX12_dies 40 = .ok (.ifCond .lt 11, 3) := by decide +kernel
theorem dX12_dies_43 : decode cX12_dies 43 = .ok (.aload_n 0, 1) := by decide +kernel
theorem dX12_dies_44 : decode cX12_dies 44 = .ok (.iload_n 3, 1) := by decide +kernel
theorem dX12_dies_45 : decode cX12_dies 45 = .ok (.invokevirtual 350, 3) := by decide +kernel
theorem dX12_dies_48 : decode cX12_dies 48 = .ok (.ifCond .ne 5, 3) := by decide +kernel
theorem dX12_dies_51 : decode cX12_dies 51 = .ok (.iconst 0, 1) := by decide +kernel
theorem dX12_dies_52 : decode cX12_dies 52 = .ok (.ireturn, 1) := by decide +kernel
theorem dX12_dies_53 : decode cX12_dies 53 = .ok (.aload_n 0, 1) := by decide +kernel
theorem dX12_dies_54 : decode cX12_dies 54 = .ok (.getfield 105, 3) := by decide +kernel
theorem dX12_dies_57 : decode cX12_dies 57 = .ok (.iconst 2, 1) := by decide +kernel
theorem dX12_dies_58 : decode cX12_dies 58 = .ok (.iload_n 3, 1) := by decide +kernel
theorem dX12_dies_59 : decode cX12_dies 59 = .ok (.iadd, 1) := by decide +kernel
theorem dX12_dies_60 : decode cX12_dies 60 = .ok (.dup2, 1) := by decide +kernel
theorem dX12_dies_61 : decode cX12_dies 61 = .ok (.iaload, 1) := by decide +kernel
theorem dX12_dies_62 : decode cX12_dies 62 = .ok (.iload_n 2, 1) := by decide +kernel
theorem dX12_dies_63 : decode cX12_dies 63 = .ok (.iadd, 1) := by decide +kernel
theorem dX12_dies_64 : decode cX12_dies 64 = .ok (.iastore, 1) := by decide +kernel
theorem dX12_dies_65 : decode cX12_dies 65 = .ok (.iload_n 2, 1) := by decide +kernel
theorem dX12_dies_66 : decode cX12_dies 66 = .ok (.ireturn, 1) := by decide +kernel
def g_X12_dies (h : zH) (t0 : Nat) (x1 : Int32) : Option (Int32 × zH) := zgu (zin (2 + x1) 107) <| zlet (h.1 (zR t0 44) (zx (2 + x1))) fun v_2 => zgu (zin x1 14) <| zlet (h.1 (zR t0 15) (zx x1)) fun v_4 => zgu (zin 1 107) <| zgu (zin 1 107) <| zlet (zpi h (zR t0 44) (zx 1) ((h.1 (zR t0 44) (zx 1)) &&& (((1 : Int32) <<< (x1 &&& 31)) ^^^ (-1)))) fun h_7 => zgu (zin (2 + x1) 107) <| zlet (zpi h_7 (zR t0 44) (zx (2 + x1)) 0) fun h_9 => if v_4 < 0 then (some (0, h_9)) else ((g_X12_isAlive h_9 t0 v_4).bind fun v_11 => if (zb v_11) = 0 then (some (0, h_9)) else (zgu (zin (2 + v_4) 107) <| zgu (zin (2 + v_4) 107) <| zlet (zpi h_9 (zR t0 44) (zx (2 + v_4)) ((h_9.1 (zR t0 44) (zx (2 + v_4))) + v_2)) fun h_15 => some (v_2, h_15)))
set_option maxRecDepth 100000 in
set_option maxHeartbeats 4000000 in
theorem b_X12_dies {K : zK} {G : zG} (hK : zC K G cX12_dies RX12 4 1 21 (some .int)) {h : zH} {t0 : Nat} {x1 : Int32} (ht0 : zT t0 = (11, 0)) {r : Int32 × zH} (hE : zE K G (some (.int r.1)) r.2) (hg : g_X12_dies h t0 x1 = some r) : zW K G 4 0 [(0, .ref (G.2.2.2 t0)), (1, .int x1)] [] h := by
  rw [g_X12_dies] at hg
  obtain ⟨c_1, hg⟩ := zgu_some hg
  obtain ⟨v_2, ev_2, hg⟩ := zlet_some hg
  obtain ⟨c_3, hg⟩ := zgu_some hg
  obtain ⟨v_4, ev_4, hg⟩ := zlet_some hg
  obtain ⟨c_5, hg⟩ := zgu_some hg
  obtain ⟨c_6, hg⟩ := zgu_some hg
  obtain ⟨h_7, eh_7, hg⟩ := zlet_some hg
  obtain ⟨c_8, hg⟩ := zgu_some hg
  obtain ⟨h_9, eh_9, hg⟩ := zlet_some hg
  refine z_aload_n (pc := 0) hK 0 dX12_dies_0 rfl (z_getR (pc := 1) hK f_X12_105_11 ht0 dX12_dies_1 (z_iconst (pc := 4) hK dX12_dies_4 zc_i2 (z_iload_n (pc := 5) hK 1 dX12_dies_5 rfl (z_iadd (pc := 6) hK dX12_dies_6 (z_iald (pc := 7) hK (zt_11_44 ht0) c_1 dX12_dies_7 (z_nameI ev_2 (z_istore_n (pc := 8) hK (lv' := [(2, .int v_2), (0, .ref (G.2.2.2 t0)), (1, .int x1)]) dX12_dies_8 (by decide) rfl (z_aload_n (pc := 9) hK 1 dX12_dies_9 rfl (z_getR (pc := 10) hK f_X12_29_11 ht0 dX12_dies_10 (z_iload_n (pc := 13) hK 2 dX12_dies_13 rfl (z_iald (pc := 14) hK (zt_11_15 ht0) c_3 dX12_dies_14 (z_nameI ev_4 (z_istore_n (pc := 15) hK (lv' := [(3, .int v_4), (2, .int v_2), (0, .ref (G.2.2.2 t0)), (1, .int x1)]) dX12_dies_15 (by decide) rfl (z_aload_n (pc := 16) hK 2 dX12_dies_16 rfl (z_getR (pc := 17) hK f_X12_105_11 ht0 dX12_dies_17 (z_iconst (pc := 20) hK dX12_dies_20 zc_i1 (z_dup2 (pc := 21) hK dX12_dies_21 rfl rfl (z_iald (pc := 22) hK (zt_11_44 ht0) c_5 dX12_dies_22 (z_iconst (pc := 23) hK dX12_dies_23 zc_i1 (z_iload_n (pc := 24) hK 3 dX12_dies_24 rfl (z_ishl (pc := 25) hK dX12_dies_25 (z_iconst (pc := 26) hK dX12_dies_26 zc_im1 (z_ixor (pc := 27) hK dX12_dies_27 (z_iand (pc := 28) hK dX12_dies_28 (z_iast (pc := 29) hK (zt_11_44 ht0) c_6 dX12_dies_29 (z_nameH eh_7 (z_aload_n (pc := 30) hK 2 dX12_dies_30 rfl (z_getR (pc := 31) hK f_X12_105_11 ht0 dX12_dies_31 (z_iconst (pc := 34) hK dX12_dies_34 zc_i2 (z_iload_n (pc := 35) hK 3 dX12_dies_35 rfl (z_iadd (pc := 36) hK dX12_dies_36 (z_iconst (pc := 37) hK dX12_dies_37 zc_i0 (z_iast (pc := 38) hK (zt_11_44 ht0) c_8 dX12_dies_38 (z_nameH eh_9 (z_iload_n (pc := 39) hK 0 dX12_dies_39 rfl (z_if_lt (pc := 40) hK 51 dX12_dies_40 (by decide) (fun c_10 => ?_) (fun c_10 => ?_)))))))))))))))))))))))))))))))))))))
  · rw [if_pos c_10] at hg
    exact z_iconst (pc := 51) hK dX12_dies_51 zc_i0 (z_iretE (pc := 52) hK hE hg dX12_dies_52)
  · rw [if_neg c_10] at hg
    obtain ⟨v_11, qv_11, hg⟩ := zbind_some hg
    refine z_aload_n (pc := 43) hK 2 dX12_dies_43 rfl (z_iload_n (pc := 44) hK 0 dX12_dies_44 rfl (z_callVi (pc := 45) hK [.int v_4] (m_X12_isAlive (zC_D hK) ht0 qv_11) sv_X12_isAlive q_1628 ht0 rfl [] rfl (Nat.le_of_ble_eq_true rfl) ⟨by decide, by decide⟩ dX12_dies_45 (z_if_ne (pc := 48) hK 53 dX12_dies_48 (by decide) (fun c_12 => ?_) (fun c_12 => ?_))))
    · rw [if_neg c_12] at hg
      obtain ⟨c_13, hg⟩ := zgu_some hg
      obtain ⟨c_14, hg⟩ := zgu_some hg
      obtain ⟨h_15, eh_15, hg⟩ := zlet_some hg
      exact z_aload_n (pc := 53) hK 2 dX12_dies_53 rfl (z_getR (pc := 54) hK f_X12_105_11 ht0 dX12_dies_54 (z_iconst (pc := 57) hK dX12_dies_57 zc_i2 (z_iload_n (pc := 58) hK 0 dX12_dies_58 rfl (z_iadd (pc := 59) hK dX12_dies_59 (z_dup2 (pc := 60) hK dX12_dies_60 rfl rfl (z_iald (pc := 61) hK (zt_11_44 ht0) c_13 dX12_dies_61 (z_iload_n (pc := 62) hK 1 dX12_dies_62 rfl (z_iadd (pc := 63) hK dX12_dies_63 (z_iast (pc := 64) hK (zt_11_44 ht0) c_14 dX12_dies_64 (z_nameH eh_15 (z_iload_n (pc := 65) hK 1 dX12_dies_65 rfl (z_iretE (pc := 66) hK hE hg dX12_dies_66))))))))))))
    · rw [if_pos c_12] at hg
      exact z_iconst (pc := 51) hK dX12_dies_51 zc_i0 (z_iretE (pc := 52) hK hE hg dX12_dies_52)
theorem m_X12_dies {l : Launch} {G : zG} (hG : zD G) {h : zH} {t0 : Nat} {x1 : Int32} (ht0 : zT t0 = (11, 0)) {r : Int32 × zH} (hg : g_X12_dies h t0 x1 = some r) : zM l G yX12_dies cX12_dies 4 (some .int) 1 21 [.ref (G.2.2.2 t0), .int x1] h (some (.int r.1)) r.2 :=
  zM_of hG pn_X12 (Nat.le_of_ble_eq_true rfl) (fun K _ hK hE => b_X12_dies hK ht0 hE hg)
theorem dX12_barOf_0 : decode cX12_barOf 0 = .ok (.aload_n 0, 1) := by decide +kernel
theorem dX12_barOf_1 : decode cX12_barOf 1 = .ok (.getfield 20, 3) := by decide +kernel
theorem dX12_barOf_4 : decode cX12_barOf 4 = .ok (.iload_n 1, 1) := by decide +kernel
theorem dX12_barOf_5 : decode cX12_barOf 5 = .ok (.iaload, 1) := by decide +kernel
theorem dX12_barOf_6 : decode cX12_barOf 6 = .ok (.iconst 2, 1) := by decide +kernel
theorem dX12_barOf_7 : decode cX12_barOf 7 = .ok (.if_icmp .ne 13, 3) := by decide +kernel
theorem dX12_barOf_10 : decode cX12_barOf 10 = .ok (.iconst 1, 1) := by decide +kernel
theorem dX12_barOf_11 : decode cX12_barOf 11 = .ok (.iload_n 2, 1) := by decide +kernel
theorem dX12_barOf_12 : decode cX12_barOf 12 = .ok (.iconst 2, 1) := by decide +kernel
theorem dX12_barOf_13 : decode cX12_barOf 13 = .ok (.isub, 1) := by decide +kernel
theorem dX12_barOf_14 : decode cX12_barOf 14 = .ok (.invokestatic 388, 3) := by decide +kernel
theorem dX12_barOf_17 : decode cX12_barOf 17 = .ok (.goto 4, 3) := by decide +kernel
theorem dX12_barOf_20 : decode cX12_barOf 20 = .ok (.iload_n 2, 1) := by decide +kernel
theorem dX12_barOf_21 : decode cX12_barOf 21 = .ok (.ireturn, 1) := by decide +kernel
def g_X12_barOf (h : zH) (t0 : Nat) (x1 : Int32) (x2 : Int32) : Option Int32 := zgu (zin x1 14) <| if (h.1 (zR t0 12) (zx x1)) = 2 then (some (if 1 < (x2 - 2) then (x2 - 2) else 1)) else (some x2)
set_option maxRecDepth 100000 in
set_option maxHeartbeats 4000000 in
theorem b_X12_barOf {K : zK} {G : zG} (hK : zC K G cX12_barOf RX12 3 1 13 (some .int)) {h : zH} {t0 : Nat} {x1 : Int32} {x2 : Int32} (ht0 : zT t0 = (11, 0)) {r : Int32} (hE : zE K G (some (.int r)) h) (hg : g_X12_barOf h t0 x1 x2 = some r) : zW K G 3 0 [(0, .ref (G.2.2.2 t0)), (1, .int x1), (2, .int x2)] [] h := by
  rw [g_X12_barOf] at hg
  obtain ⟨c_1, hg⟩ := zgu_some hg
  refine z_aload_n (pc := 0) hK 0 dX12_barOf_0 rfl (z_getR (pc := 1) hK f_X12_20_11 ht0 dX12_barOf_1 (z_iload_n (pc := 4) hK 1 dX12_barOf_4 rfl (z_iald (pc := 5) hK (zt_11_12 ht0) c_1 dX12_barOf_5 (z_iconst (pc := 6) hK dX12_barOf_6 zc_i2 (z_icmp_ne (pc := 7) hK 20 dX12_barOf_7 (by decide) (fun c_2 => ?_) (fun c_2 => ?_))))))
  · rw [if_neg c_2] at hg
    exact z_iload_n (pc := 20) hK 2 dX12_barOf_20 rfl (z_iretP (pc := 21) hK hE hg dX12_barOf_21)
  · rw [if_pos c_2] at hg
    exact z_iconst (pc := 10) hK dX12_barOf_10 zc_i1 (z_iload_n (pc := 11) hK 2 dX12_barOf_11 rfl (z_iconst (pc := 12) hK dX12_barOf_12 zc_i2 (z_isub (pc := 13) hK dX12_barOf_13 (z_mmax (pc := 14) hK q_1719 zw_max ⟨by decide, Nat.le_of_ble_eq_true rfl⟩ dX12_barOf_14 (z_goto (pc := 17) hK 21 dX12_barOf_17 (by decide) (z_iretP (pc := 21) hK hE hg dX12_barOf_21))))))
theorem m_X12_barOf {l : Launch} {G : zG} (hG : zD G) {h : zH} {t0 : Nat} {x1 : Int32} {x2 : Int32} (ht0 : zT t0 = (11, 0)) {r : Int32} (hg : g_X12_barOf h t0 x1 x2 = some r) : zM l G yX12_barOf cX12_barOf 3 (some .int) 1 13 [.ref (G.2.2.2 t0), .int x1, .int x2] h (some (.int r)) h :=
  zM_of hG pn_X12 (Nat.le_of_ble_eq_true rfl) (fun K _ hK hE => b_X12_barOf hK ht0 hE hg)
theorem dX12_mayCast_0 : decode cX12_mayCast 0 = .ok (.aload_n 0, 1) := by decide +kernel
theorem dX12_mayCast_1 : decode cX12_mayCast 1 = .ok (.iload_n 1, 1) := by decide +kernel
theorem dX12_mayCast_2 : decode cX12_mayCast 2 = .ok (.invokevirtual 350, 3) := by decide +kernel
theorem dX12_mayCast_5 : decode cX12_mayCast 5 = .ok (.ifCond .eq 28, 3) := by decide +kernel
theorem dX12_mayCast_8 : decode cX12_mayCast 8 = .ok (.aload_n 0, 1) := by decide +kernel
theorem dX12_mayCast_9 : decode cX12_mayCast 9 = .ok (.getfield 105, 3) := by decide +kernel
theorem dX12_mayCast_12 : decode cX12_mayCast 12 = .ok (.iconst 2, 1) := by decide +kernel
theorem dX12_mayCast_13 : decode cX12_mayCast 13 = .ok (.iload_n 1, 1) := by decide +kernel
theorem dX12_mayCast_14 : decode cX12_mayCast 14 = .ok (.iadd, 1) := by decide +kernel
theorem dX12_mayCast_15 : decode cX12_mayCast 15 = .ok (.iaload, 1) := by decide +kernel
theorem dX12_mayCast_16 : decode cX12_mayCast 16 = .ok (.ifCond .le 17, 3) := by decide +kernel
theorem dX12_mayCast_19 : decode cX12_mayCast 19 = .ok (.aload_n 0, 1) := by decide +kernel
theorem dX12_mayCast_20 : decode cX12_mayCast 20 = .ok (.getfield 20, 3) := by decide +kernel
theorem dX12_mayCast_23 : decode cX12_mayCast 23 = .ok (.iload_n 1, 1) := by decide +kernel
theorem dX12_mayCast_24 : decode cX12_mayCast 24 = .ok (.iaload, 1) := by decide +kernel
theorem dX12_mayCast_25 : decode cX12_mayCast 25 = .ok (.iconst 1, 1) := by decide +kernel
theorem dX12_mayCast_26 : decode cX12_mayCast 26 = .ok (.if_icmp .eq 7, 3) := by decide +kernel
theorem dX12_mayCast_29 : decode cX12_mayCast 29 = .ok (.iconst 1, 1) := by decide +kernel
theorem dX12_mayCast_30 : decode cX12_mayCast 30 = .ok (.goto 4, 3) := by decide +kernel
theorem dX12_mayCast_33 : decode cX12_mayCast 33 = .ok (.iconst 0, 1) := by decide +kernel
theorem dX12_mayCast_34 : decode cX12_mayCast 34 = .ok (.ireturn, 1) := by decide +kernel
def g_X12_mayCast (h : zH) (t0 : Nat) (x1 : Int32) : Option Bool := (g_X12_isAlive h t0 x1).bind fun v_1 => if (zb v_1) = 0 then (some false) else (zgu (zin (2 + x1) 107) <| if (h.1 (zR t0 44) (zx (2 + x1))) ≤ 0 then (some false) else (zgu (zin x1 14) <| if (h.1 (zR t0 12) (zx x1)) = 1 then (some false) else (some true)))
set_option maxRecDepth 100000 in
set_option maxHeartbeats 4000000 in
theorem b_X12_mayCast {K : zK} {G : zG} (hK : zC K G cX12_mayCast RX12 2 1 21 (some .boolean)) {h : zH} {t0 : Nat} {x1 : Int32} (ht0 : zT t0 = (11, 0)) {r : Bool} (hE : zE K G (some (.int (zb r))) h) (hg : g_X12_mayCast h t0 x1 = some r) : zW K G 2 0 [(0, .ref (G.2.2.2 t0)), (1, .int x1)] [] h := by
  rw [g_X12_mayCast] at hg
  obtain ⟨v_1, qv_1, hg⟩ := zbind_some hg
  refine z_aload_n (pc := 0) hK 0 dX12_mayCast_0 rfl (z_iload_n (pc := 1) hK 1 dX12_mayCast_1 rfl (z_callVi (pc := 2) hK [.int x1] (m_X12_isAlive (zC_D hK) ht0 qv_1) sv_X12_isAlive q_1628 ht0 rfl [] rfl (Nat.le_of_ble_eq_true rfl) ⟨by decide, by decide⟩ dX12_mayCast_2 (z_if_eq (pc := 5) hK 33 dX12_mayCast_5 (by decide) (fun c_2 => ?_) (fun c_2 => ?_))))
  · rw [if_pos c_2] at hg
    exact z_iconst (pc := 33) hK dX12_mayCast_33 zc_i0 (z_zretP (pc := 34) hK rfl hE hg dX12_mayCast_34)
  · rw [if_neg c_2] at hg
    obtain ⟨c_3, hg⟩ := zgu_some hg
    refine z_aload_n (pc := 8) hK 0 dX12_mayCast_8 rfl (z_getR (pc := 9) hK f_X12_105_11 ht0 dX12_mayCast_9 (z_iconst (pc := 12) hK dX12_mayCast_12 zc_i2 (z_iload_n (pc := 13) hK 1 dX12_mayCast_13 rfl (z_iadd (pc := 14) hK dX12_mayCast_14 (z_iald (pc := 15) hK (zt_11_44 ht0) c_3 dX12_mayCast_15 (z_if_le (pc := 16) hK 33 dX12_mayCast_16 (by decide) (fun c_4 => ?_) (fun c_4 => ?_)))))))
    · rw [if_pos c_4] at hg
      exact z_iconst (pc := 33) hK dX12_mayCast_33 zc_i0 (z_zretP (pc := 34) hK rfl hE hg dX12_mayCast_34)
    · rw [if_neg c_4] at hg
      obtain ⟨c_5, hg⟩ := zgu_some hg
      refine z_aload_n (pc := 19) hK 0 dX12_mayCast_19 rfl (z_getR (pc := 20) hK f_X12_20_11 ht0 dX12_mayCast_20 (z_iload_n (pc := 23) hK 1 dX12_mayCast_23 rfl (z_iald (pc := 24) hK (zt_11_12 ht0) c_5 dX12_mayCast_24 (z_iconst (pc := 25) hK dX12_mayCast_25 zc_i1 (z_icmp_eq (pc := 26) hK 33 dX12_mayCast_26 (by decide) (fun c_6 => ?_) (fun c_6 => ?_))))))
      · rw [if_pos c_6] at hg
        exact z_iconst (pc := 33) hK dX12_mayCast_33 zc_i0 (z_zretP (pc := 34) hK rfl hE hg dX12_mayCast_34)
      · rw [if_neg c_6] at hg
        exact z_iconst (pc := 29) hK dX12_mayCast_29 zc_i1 (z_goto (pc := 30) hK 34 dX12_mayCast_30 (by decide) (z_zretP (pc := 34) hK rfl hE hg dX12_mayCast_34))
theorem m_X12_mayCast {l : Launch} {G : zG} (hG : zD G) {h : zH} {t0 : Nat} {x1 : Int32} (ht0 : zT t0 = (11, 0)) {r : Bool} (hg : g_X12_mayCast h t0 x1 = some r) : zM l G yX12_mayCast cX12_mayCast 2 (some .boolean) 1 21 [.ref (G.2.2.2 t0), .int x1] h (some (.int (zb r))) h :=
  zM_of hG pn_X12 (Nat.le_of_ble_eq_true rfl) (fun K _ hK hE => b_X12_mayCast hK ht0 hE hg)
theorem dX12_hated_0 : decode cX12_hated 0 = .ok (.iconst (-1), 1) := by decide +kernel
theorem dX12_hated_1 : decode cX12_hated 1 = .ok (.istore_n 2, 1) := by decide +kernel
theorem dX12_hated_2 : decode cX12_hated 2 = .ok (.iconst 0, 1) := by decide +kernel
theorem dX12_hated_3 : decode cX12_hated 3 = .ok (.istore_n 3, 1) := by decide +kernel
theorem dX12_hated_4 : decode cX12_hated 4 = .ok (.iload_n 3, 1) := by decide +kernel
theorem dX12_hated_5 : decode cX12_hated 5 = .ok (.aload_n 0, 1) := by decide +kernel
theorem dX12_hated_6 : decode cX12_hated 6 = .ok (.getfield 13, 3) := by decide +kernel
theorem dX12_hated_9 : decode cX12_hated 9 = .ok (.iconst 0, 1) := by decide +kernel
theorem dX12_hated_10 : decode cX12_hated 10 = .ok (.iaload, 1) := by decide +kernel
theorem dX12_hated_11 : decode cX12_hated 11 = .ok (.if_icmp .ge 59, 3) := by decide +kernel
theorem dX12_hated_14 : decode cX12_hated 14 = .ok (.iload_n 3, 1) := by decide +kernel
theorem dX12_hated_15 : decode cX12_hated 15 = .ok (.iload_n 1, 1) := by decide +kernel
theorem dX12_hated_16 : decode cX12_hated 16 = .ok (.if_icmp .eq 48, 3) := by decide +kernel
theorem dX12_hated_19 : decode cX12_hated 19 = .ok (.aload_n 0, 1) := by decide +kernel
theorem dX12_hated_20 : decode cX12_hated 20 = .ok (.iload_n 3, 1) := by decide +kernel
theorem dX12_hated_21 : decode cX12_hated 21 = .ok (.invokevirtual 350, 3) := by decide +kernel
theorem dX12_hated_24 : decode cX12_hated 24 = .ok (.ifCond .eq 40, 3) := by decide +kernel
theorem dX12_hated_27 : decode cX12_hated 27 = .ok (.iload_n 2, 1) := by decide +kernel
theorem dX12_hated_28 : decode cX12_hated 28 = .ok (.ifCond .lt 34, 3) := by decide +kernel
theorem dX12_hated_31 : decode cX12_hated 31 = .ok (.aload_n 0, 1) := by decide +kernel
theorem dX12_hated_32 : decode cX12_hated 32 = .ok (.getfield 105, 3) := by decide +kernel
theorem dX12_hated_35 : decode cX12_hated 35 = .ok (.bipush 9, 2) := by decide +kernel
theorem dX12_hated_37 : decode cX12_hated 37 = .ok (.bipush 7, 2) := by decide +kernel
theorem dX12_hated_39 : decode cX12_hated 39 = .ok (.iload_n 1, 1) := by decide +kernel
theorem dX12_hated_40 : decode cX12_hated 40 = .ok (.imul, 1) := by decide +kernel
theorem dX12_hated_41 : decode cX12_hated 41 = .ok (.iadd, 1) := by decide +kernel
theorem dX12_hated_42 : decode cX12_hated 42 = .ok (.iload_n 3, 1) := by decide +kernel
theorem dX12_hated_43 : decode cX12_hated 43 = .ok (.iadd, 1) := by decide +kernel
theorem dX12_hated_44 : decode cX12_hated 44 = .ok (.iaload, 1) := by decide +kernel
theorem dX12_hated_45 : decode cX12_hated 45 = .ok (.aload_n 0, 1) := by decide +kernel
theorem dX12_hated_46 : decode cX12_hated 46 = .ok (.getfield 105, 3) := by decide +kernel
theorem dX12_hated_49 : decode cX12_hated 49 = .ok (.bipush 9, 2) := by decide +kernel
theorem dX12_hated_51 : decode cX12_hated 51 = .ok (.bipush 7, 2) := by decide +kernel
theorem dX12_hated_53 : decode cX12_hated 53 = .ok (.iload_n 1, 1) := by decide +kernel
theorem dX12_hated_54 : decode cX12_hated 54 = .ok (.imul, 1) := by decide +kernel
theorem dX12_hated_55 : decode cX12_hated 55 = .ok (.iadd, 1) := by decide +kernel
theorem dX12_hated_56 : decode cX12_hated 56 = .ok (.iload_n 2, 1) := by decide +kernel
theorem dX12_hated_57 : decode cX12_hated 57 = .ok (.iadd, 1) := by decide +kernel
theorem dX12_hated_58 : decode cX12_hated 58 = .ok (.iaload, 1) := by decide +kernel
theorem dX12_hated_59 : decode cX12_hated 59 = .ok (.if_icmp .le 5, 3) := by decide +kernel
theorem dX12_hated_62 : decode cX12_hated 62 = .ok (.iload_n 3, 1) := by decide +kernel
theorem dX12_hated_63 : decode cX12_hated 63 = .ok (.istore_n 2, 1) := by decide +kernel
theorem dX12_hated_64 : decode cX12_hated 64 = .ok (.iinc 3 1, 3) := by decide +kernel
theorem dX12_hated_67 : decode cX12_hated 67 = .ok (.goto (-63), 3) := by decide +kernel
theorem dX12_hated_70 : decode cX12_hated 70 = .ok (.iload_n 2, 1) := by decide +kernel
theorem dX12_hated_71 : decode cX12_hated 71 = .ok (.ireturn, 1) := by decide +kernel
def g_X12_hated_4 (h : zH) (t0 : Nat)  : Nat → Int32 → Int32 → Int32 → Option Int32
  | 0, _, _, _ => none
  | n + 1, x1, x2, x3 => zgu (zin 0 8) <| if (h.1 (zR t0 10) (zx 0)) ≤ x3 then (some x2) else (if x3 = x1 then (g_X12_hated_4 h t0 n x1 x2 (x3 + 1)) else ((g_X12_isAlive h t0 x3).bind fun v_4 => if (zb v_4) = 0 then (g_X12_hated_4 h t0 n x1 x2 (x3 + 1)) else (if x2 < 0 then (g_X12_hated_4 h t0 n x1 x3 (x3 + 1)) else (zgu (zin ((9 + (7 * x1)) + x3) 107) <| zgu (zin ((9 + (7 * x1)) + x2) 107) <| if (h.1 (zR t0 44) (zx ((9 + (7 * x1)) + x3))) ≤ (h.1 (zR t0 44) (zx ((9 + (7 * x1)) + x2))) then (g_X12_hated_4 h t0 n x1 x2 (x3 + 1)) else (g_X12_hated_4 h t0 n x1 x3 (x3 + 1))))))
def g_X12_hated (h : zH) (t0 : Nat) (x1 : Int32) : Option Int32 := g_X12_hated_4 h t0 zfu x1 (-1) 0
set_option maxRecDepth 100000 in
set_option maxHeartbeats 4000000 in
theorem b_X12_hated_4 {K : zK} {G : zG} (hK : zC K G cX12_hated RX12 4 1 21 (some .int)) {h : zH} {t0 : Nat} (ht0 : zT t0 = (11, 0)) {r : Int32} (hE : zE K G (some (.int r)) h) : ∀ (n : Nat) (x1 : Int32) (x2 : Int32) (x3 : Int32), g_X12_hated_4 h t0 n x1 x2 x3 = some r → zW K G 4 4 [(0, .ref (G.2.2.2 t0)), (1, .int x1), (2, .int x2), (3, .int x3)] [] h := by
  intro n
  induction n with
  | zero => intro x1 x2 x3 hg; exact nomatch (show none = some r from hg)
  | succ n ih =>
    intro x1 x2 x3 hg
    rw [g_X12_hated_4] at hg
    obtain ⟨c_1, hg⟩ := zgu_some hg
    refine z_iload_n (pc := 4) hK 3 dX12_hated_4 rfl (z_aload_n (pc := 5) hK 0 dX12_hated_5 rfl (z_getR (pc := 6) hK f_X12_13_11 ht0 dX12_hated_6 (z_iconst (pc := 9) hK dX12_hated_9 zc_i0 (z_iald (pc := 10) hK (zt_11_10 ht0) c_1 dX12_hated_10 (z_icmp_ge (pc := 11) hK 70 dX12_hated_11 (by decide) (fun c_2 => ?_) (fun c_2 => ?_))))))
    · rw [if_pos c_2] at hg
      exact z_iload_n (pc := 70) hK 2 dX12_hated_70 rfl (z_iretP (pc := 71) hK hE hg dX12_hated_71)
    · rw [if_neg c_2] at hg
      refine z_iload_n (pc := 14) hK 3 dX12_hated_14 rfl (z_iload_n (pc := 15) hK 1 dX12_hated_15 rfl (z_icmp_eq (pc := 16) hK 64 dX12_hated_16 (by decide) (fun c_3 => ?_) (fun c_3 => ?_)))
      · rw [if_pos c_3] at hg
        exact z_iinc (pc := 64) hK 3 (lv' := [(3, .int (x3 + 1)), (0, .ref (G.2.2.2 t0)), (1, .int x1), (2, .int x2)]) dX12_hated_64 rfl (zc_n1 _) (by decide) rfl (z_goto (pc := 67) hK 4 dX12_hated_67 (by decide) (zsub (lv' := [(0, .ref (G.2.2.2 t0)), (1, .int x1), (2, .int x2), (3, .int (x3 + 1))]) [1, 2, 3, 0] rfl (ih x1 x2 (x3 + 1) hg)))
      · rw [if_neg c_3] at hg
        obtain ⟨v_4, qv_4, hg⟩ := zbind_some hg
        refine z_aload_n (pc := 19) hK 0 dX12_hated_19 rfl (z_iload_n (pc := 20) hK 3 dX12_hated_20 rfl (z_callVi (pc := 21) hK [.int x3] (m_X12_isAlive (zC_D hK) ht0 qv_4) sv_X12_isAlive q_1628 ht0 rfl [] rfl (Nat.le_of_ble_eq_true rfl) ⟨by decide, by decide⟩ dX12_hated_21 (z_if_eq (pc := 24) hK 64 dX12_hated_24 (by decide) (fun c_5 => ?_) (fun c_5 => ?_))))
        · rw [if_pos c_5] at hg
          exact z_iinc (pc := 64) hK 3 (lv' := [(3, .int (x3 + 1)), (0, .ref (G.2.2.2 t0)), (1, .int x1), (2, .int x2)]) dX12_hated_64 rfl (zc_n1 _) (by decide) rfl (z_goto (pc := 67) hK 4 dX12_hated_67 (by decide) (zsub (lv' := [(0, .ref (G.2.2.2 t0)), (1, .int x1), (2, .int x2), (3, .int (x3 + 1))]) [1, 2, 3, 0] rfl (ih x1 x2 (x3 + 1) hg)))
        · rw [if_neg c_5] at hg
          refine z_iload_n (pc := 27) hK 2 dX12_hated_27 rfl (z_if_lt (pc := 28) hK 62 dX12_hated_28 (by decide) (fun c_6 => ?_) (fun c_6 => ?_))
          · rw [if_pos c_6] at hg
            exact z_iload_n (pc := 62) hK 3 dX12_hated_62 rfl (z_istore_n (pc := 63) hK (lv' := [(2, .int x3), (0, .ref (G.2.2.2 t0)), (1, .int x1), (3, .int x3)]) dX12_hated_63 (by decide) rfl (z_iinc (pc := 64) hK 3 (lv' := [(3, .int (x3 + 1)), (2, .int x3), (0, .ref (G.2.2.2 t0)), (1, .int x1)]) dX12_hated_64 rfl (zc_n1 _) (by decide) rfl (z_goto (pc := 67) hK 4 dX12_hated_67 (by decide) (zsub (lv' := [(0, .ref (G.2.2.2 t0)), (1, .int x1), (2, .int x3), (3, .int (x3 + 1))]) [2, 3, 1, 0] rfl (ih x1 x3 (x3 + 1) hg)))))
          · rw [if_neg c_6] at hg
            obtain ⟨c_7, hg⟩ := zgu_some hg
            obtain ⟨c_8, hg⟩ := zgu_some hg
            refine z_aload_n (pc := 31) hK 0 dX12_hated_31 rfl (z_getR (pc := 32) hK f_X12_105_11 ht0 dX12_hated_32 (z_bipush (pc := 35) hK dX12_hated_35 zc_b9 (z_bipush (pc := 37) hK dX12_hated_37 zc_b7 (z_iload_n (pc := 39) hK 1 dX12_hated_39 rfl (z_imul (pc := 40) hK dX12_hated_40 (z_iadd (pc := 41) hK dX12_hated_41 (z_iload_n (pc := 42) hK 3 dX12_hated_42 rfl (z_iadd (pc := 43) hK dX12_hated_43 (z_iald (pc := 44) hK (zt_11_44 ht0) c_7 dX12_hated_44 (z_aload_n (pc := 45) hK 0 dX12_hated_45 rfl (z_getR (pc := 46) hK f_X12_105_11 ht0 dX12_hated_46 (z_bipush (pc := 49) hK dX12_hated_49 zc_b9 (z_bipush (pc := 51) hK dX12_hated_51 zc_b7 (z_iload_n (pc := 53) hK 1 dX12_hated_53 rfl (z_imul (pc := 54) hK dX12_hated_54 (z_iadd (pc := 55) hK dX12_hated_55 (z_iload_n (pc := 56) hK 2 dX12_hated_56 rfl (z_iadd (pc := 57) hK dX12_hated_57 (z_iald (pc := 58) hK (zt_11_44 ht0) c_8 dX12_hated_58 (z_icmp_le (pc := 59) hK 64 dX12_hated_59 (by decide) (fun c_9 => ?_) (fun c_9 => ?_)))))))))))))))))))))
            · rw [if_pos c_9] at hg
              exact z_iinc (pc := 64) hK 3 (lv' := [(3, .int (x3 + 1)), (0, .ref (G.2.2.2 t0)), (1, .int x1), (2, .int x2)]) dX12_hated_64 rfl (zc_n1 _) (by decide) rfl (z_goto (pc := 67) hK 4 dX12_hated_67 (by decide) (zsub (lv' := [(0, .ref (G.2.2.2 t0)), (1, .int x1), (2, .int x2), (3, .int (x3 + 1))]) [1, 2, 3, 0] rfl (ih x1 x2 (x3 + 1) hg)))
            · rw [if_neg c_9] at hg
              exact z_iload_n (pc := 62) hK 3 dX12_hated_62 rfl (z_istore_n (pc := 63) hK (lv' := [(2, .int x3), (0, .ref (G.2.2.2 t0)), (1, .int x1), (3, .int x3)]) dX12_hated_63 (by decide) rfl (z_iinc (pc := 64) hK 3 (lv' := [(3, .int (x3 + 1)), (2, .int x3), (0, .ref (G.2.2.2 t0)), (1, .int x1)]) dX12_hated_64 rfl (zc_n1 _) (by decide) rfl (z_goto (pc := 67) hK 4 dX12_hated_67 (by decide) (zsub (lv' := [(0, .ref (G.2.2.2 t0)), (1, .int x1), (2, .int x3), (3, .int (x3 + 1))]) [2, 3, 1, 0] rfl (ih x1 x3 (x3 + 1) hg)))))
set_option maxRecDepth 100000 in
set_option maxHeartbeats 4000000 in
theorem b_X12_hated {K : zK} {G : zG} (hK : zC K G cX12_hated RX12 4 1 21 (some .int)) {h : zH} {t0 : Nat} {x1 : Int32} (ht0 : zT t0 = (11, 0)) {r : Int32} (hE : zE K G (some (.int r)) h) (hg : g_X12_hated h t0 x1 = some r) : zW K G 4 0 [(0, .ref (G.2.2.2 t0)), (1, .int x1)] [] h := by
  rw [g_X12_hated] at hg
  exact z_iconst (pc := 0) hK dX12_hated_0 zc_im1 (z_istore_n (pc := 1) hK (lv' := [(2, .int (-1)), (0, .ref (G.2.2.2 t0)), (1, .int x1)]) dX12_hated_1 (by decide) rfl (z_iconst (pc := 2) hK dX12_hated_2 zc_i0 (z_istore_n (pc := 3) hK (lv' := [(3, .int 0), (2, .int (-1)), (0, .ref (G.2.2.2 t0)), (1, .int x1)]) dX12_hated_3 (by decide) rfl (zsub (lv' := [(0, .ref (G.2.2.2 t0)), (1, .int x1), (2, .int (-1)), (3, .int 0)]) [2, 3, 1, 0] rfl (b_X12_hated_4 hK ht0 hE zfu x1 (-1) 0 hg)))))
theorem m_X12_hated {l : Launch} {G : zG} (hG : zD G) {h : zH} {t0 : Nat} {x1 : Int32} (ht0 : zT t0 = (11, 0)) {r : Int32} (hg : g_X12_hated h t0 x1 = some r) : zM l G yX12_hated cX12_hated 4 (some .int) 1 21 [.ref (G.2.2.2 t0), .int x1] h (some (.int r)) h :=
  zM_of hG pn_X12 (Nat.le_of_ble_eq_true rfl) (fun K _ hK hE => b_X12_hated hK ht0 hE hg)
