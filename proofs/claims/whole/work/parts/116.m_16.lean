theorem dX12_next_0 : decode cX12_next 0 = .ok (.aload_n 0, 1) := by decide +kernel
theorem dX12_next_1 : decode cX12_next 1 = .ok (.iconst 0, 1) := by decide +kernel
theorem dX12_next_2 : decode cX12_next 2 = .ok (.putfield 126, 3) := by decide +kernel
theorem dX12_next_5 : decode cX12_next 5 = .ok (.aload_n 0, 1) := by decide +kernel
theorem dX12_next_6 : decode cX12_next 6 = .ok (.iload_n 1, 1) := by decide +kernel
theorem dX12_next_7 : decode cX12_next 7 = .ok (.invokevirtual 344, 3) := by decide +kernel
theorem dX12_next_10 : decode cX12_next 10 = .ok (.ifCond .eq 17, 3) := by decide +kernel
theorem dX12_next_13 : decode cX12_next 13 = .ok (.aload_n 0, 1) := by decide +kernel
theorem dX12_next_14 : decode cX12_next 14 = .ok (.iload_n 1, 1) := by decide +kernel
theorem dX12_next_15 : decode cX12_next 15 = .ok (.aload_n 0, 1) := by decide +kernel
theorem dX12_next_16 : decode cX12_next 16 = .ok (.getfield 13, 3) := by decide +kernel
theorem dX12_next_19 : decode cX12_next 19 = .ok (.iconst 1, 1) := by decide +kernel
theorem dX12_next_20 : decode cX12_next 20 = .ok (.iaload, 1) := by decide +kernel
theorem dX12_next_21 : decode cX12_next 21 = .ok (.invokevirtual 400, 3) := by decide +kernel
theorem dX12_next_24 : decode cX12_next 24 = .ok (.goto 4, 3) := by decide +kernel
theorem dX12_next_27 : decode cX12_next 27 = .ok (.iconst (-1), 1) := by decide +kernel
theorem dX12_next_28 : decode cX12_next 28 = .ok (.ireturn, 1) := by decide +kernel
def g_X12_next (h : zH) (t0 : Nat) (x1 : Int32) : Option (Int32 × zH) := zlet (zpi h t0 0 0) fun h_1 => (g_X12_isPerson h_1 t0 x1).bind fun v_2 => if (zb v_2) = 0 then (some ((-1), h_1)) else (zgu (zin 1 8) <| (g_X12_nextOf h_1 t0 x1 (h_1.1 (zR t0 10) (zx 1))).bind fun v_5 => some (v_5, h_1))
set_option maxRecDepth 100000 in
set_option maxHeartbeats 4000000 in
theorem b_X12_next {K : zK} {G : zG} (hK : zC K G cX12_next RX12 2 3 67 (some .int)) {h : zH} {t0 : Nat} {x1 : Int32} (ht0 : zT t0 = (11, 0)) {r : Int32 × zH} (hE : zE K G (some (.int r.1)) r.2) (hg : g_X12_next h t0 x1 = some r) : zW K G 2 0 [(0, .ref (G.2.2.2 t0)), (1, .int x1)] [] h := by
  rw [g_X12_next] at hg
  obtain ⟨h_1, eh_1, hg⟩ := zlet_some hg
  obtain ⟨v_2, qv_2, hg⟩ := zbind_some hg
  refine z_aload_n (pc := 0) hK 0 dX12_next_0 rfl (z_iconst (pc := 1) hK dX12_next_1 zc_i0 (z_putI (pc := 2) hK f_X12_126_11 fp_11_0 ht0 dX12_next_2 (z_nameH eh_1 (z_aload_n (pc := 5) hK 0 dX12_next_5 rfl (z_iload_n (pc := 6) hK 1 dX12_next_6 rfl (z_callVi (pc := 7) hK [.int x1] (m_X12_isPerson (zC_D hK) ht0 qv_2) sv_X12_isPerson q_1620 ht0 rfl [] rfl (Nat.le_of_ble_eq_true rfl) ⟨by decide, by decide⟩ dX12_next_7 (z_if_eq (pc := 10) hK 27 dX12_next_10 (by decide) (fun c_3 => ?_) (fun c_3 => ?_))))))))
  · rw [if_pos c_3] at hg
    exact z_iconst (pc := 27) hK dX12_next_27 zc_im1 (z_iretE (pc := 28) hK hE hg dX12_next_28)
  · rw [if_neg c_3] at hg
    obtain ⟨c_4, hg⟩ := zgu_some hg
    obtain ⟨v_5, qv_5, hg⟩ := zbind_some hg
    exact z_aload_n (pc := 13) hK 0 dX12_next_13 rfl (z_iload_n (pc := 14) hK 1 dX12_next_14 rfl (z_aload_n (pc := 15) hK 0 dX12_next_15 rfl (z_getR (pc := 16) hK f_X12_13_11 ht0 dX12_next_16 (z_iconst (pc := 19) hK dX12_next_19 zc_i1 (z_iald (pc := 20) hK (zt_11_10 ht0) c_4 dX12_next_20 (z_callVi (pc := 21) hK [.int x1, .int (h_1.1 (zR t0 10) (zx 1))] (m_X12_nextOf (zC_D hK) ht0 qv_5) sv_X12_nextOf q_1744 ht0 rfl [] rfl (Nat.le_of_ble_eq_true rfl) ⟨by decide, by decide⟩ dX12_next_21 (z_goto (pc := 24) hK 28 dX12_next_24 (by decide) (z_iretE (pc := 28) hK hE hg dX12_next_28))))))))
theorem m_X12_next {l : Launch} {G : zG} (hG : zD G) {h : zH} {t0 : Nat} {x1 : Int32} (ht0 : zT t0 = (11, 0)) {r : Int32 × zH} (hg : g_X12_next h t0 x1 = some r) : zM l G yX12_next cX12_next 2 (some .int) 3 67 [.ref (G.2.2.2 t0), .int x1] h (some (.int r.1)) r.2 :=
  zM_of hG pn_X12 (Nat.le_of_ble_eq_true rfl) (fun K _ hK hE => b_X12_next hK ht0 hE hg)
theorem dX12_allVotes_0 : decode cX12_allVotes 0 = .ok (.iconst 0, 1) := by decide +kernel
theorem dX12_allVotes_1 : decode cX12_allVotes 1 = .ok (.istore_n 1, 1) := by decide +kernel
theorem dX12_allVotes_2 : decode cX12_allVotes 2 = .ok (.iconst 0, 1) := by decide +kernel
theorem dX12_allVotes_3 : decode cX12_allVotes 3 = .ok (.istore_n 2, 1) := by decide +kernel
theorem dX12_allVotes_4 : decode cX12_allVotes 4 = .ok (.iload_n 2, 1) := by decide +kernel
theorem dX12_allVotes_5 : decode cX12_allVotes 5 = .ok (.aload_n 0, 1) := by decide +kernel
theorem dX12_allVotes_6 : decode cX12_allVotes 6 = .ok (.getfield 13, 3) := by decide +kernel
theorem dX12_allVotes_9 : decode cX12_allVotes 9 = .ok (.iconst 0, 1) := by decide +kernel
theorem dX12_allVotes_10 : decode cX12_allVotes 10 = .ok (.iaload, 1) := by decide +kernel
theorem dX12_allVotes_11 : decode cX12_allVotes 11 = .ok (.if_icmp .ge 32, 3) := by decide +kernel
theorem dX12_allVotes_14 : decode cX12_allVotes 14 = .ok (.iload_n 1, 1) := by decide +kernel
theorem dX12_allVotes_15 : decode cX12_allVotes 15 = .ok (.aload_n 0, 1) := by decide +kernel
theorem dX12_allVotes_16 : decode cX12_allVotes 16 = .ok (.iload_n 2, 1) := by decide +kernel
theorem dX12_allVotes_17 : decode cX12_allVotes 17 = .ok (.invokevirtual 350, 3) := by decide +kernel
theorem dX12_allVotes_20 : decode cX12_allVotes 20 = .ok (.ifCond .eq 14, 3) := by decide +kernel
theorem dX12_allVotes_23 : decode cX12_allVotes 23 = .ok (.aload_n 0, 1) := by decide +kernel
theorem dX12_allVotes_24 : decode cX12_allVotes 24 = .ok (.getfield 105, 3) := by decide +kernel
theorem dX12_allVotes_27 : decode cX12_allVotes 27 = .ok (.iconst 2, 1) := by decide +kernel
theorem dX12_allVotes_28 : decode cX12_allVotes 28 = .ok (.iload_n 2, 1) := by decide +kernel
theorem dX12_allVotes_29 : decode cX12_allVotes 29 = .ok (.iadd, 1) := by decide +kernel
theorem dX12_allVotes_30 : decode cX12_allVotes 30 = .ok (.iaload, 1) := by decide +kernel
theorem dX12_allVotes_31 : decode cX12_allVotes 31 = .ok (.goto 4, 3) := by decide +kernel
theorem dX12_allVotes_34 : decode cX12_allVotes 34 = .ok (.iconst 0, 1) := by decide +kernel
theorem dX12_allVotes_35 : decode cX12_allVotes 35 = .ok (.iadd, 1) := by decide +kernel
theorem dX12_allVotes_36 : decode cX12_allVotes 36 = .ok (.istore_n 1, 1) := by decide +kernel
theorem dX12_allVotes_37 : decode cX12_allVotes 37 = .ok (.iinc 2 1, 3) := by decide +kernel
theorem dX12_allVotes_40 : decode cX12_allVotes 40 = .ok (.goto (-36), 3) := by decide +kernel
theorem dX12_allVotes_43 : decode cX12_allVotes 43 = .ok (.iload_n 1, 1) := by decide +kernel
theorem dX12_allVotes_44 : decode cX12_allVotes 44 = .ok (.ireturn, 1) := by decide +kernel
def g_X12_allVotes_4 (h : zH) (t0 : Nat)  : Nat → Int32 → Int32 → Option Int32
  | 0, _, _ => none
  | n + 1, x1, x2 => zgu (zin 0 8) <| if (h.1 (zR t0 10) (zx 0)) ≤ x2 then (some x1) else ((g_X12_isAlive h t0 x2).bind fun v_3 => if (zb v_3) = 0 then (g_X12_allVotes_4 h t0 n (x1 + 0) (x2 + 1)) else (zgu (zin (2 + x2) 107) <| zlet (x1 + (h.1 (zR t0 44) (zx (2 + x2)))) fun v_6 => g_X12_allVotes_4 h t0 n v_6 (x2 + 1)))
def g_X12_allVotes (h : zH) (t0 : Nat) : Option Int32 := g_X12_allVotes_4 h t0 zfu 0 0
set_option maxRecDepth 100000 in
set_option maxHeartbeats 4000000 in
theorem b_X12_allVotes_4 {K : zK} {G : zG} (hK : zC K G cX12_allVotes RX12 3 1 21 (some .int)) {h : zH} {t0 : Nat} (ht0 : zT t0 = (11, 0)) {r : Int32} (hE : zE K G (some (.int r)) h) : ∀ (n : Nat) (x1 : Int32) (x2 : Int32), g_X12_allVotes_4 h t0 n x1 x2 = some r → zW K G 3 4 [(0, .ref (G.2.2.2 t0)), (1, .int x1), (2, .int x2)] [] h := by
  intro n
  induction n with
  | zero => intro x1 x2 hg; exact nomatch (show none = some r from hg)
  | succ n ih =>
    intro x1 x2 hg
    rw [g_X12_allVotes_4] at hg
    obtain ⟨c_1, hg⟩ := zgu_some hg
    refine z_iload_n (pc := 4) hK 2 dX12_allVotes_4 rfl (z_aload_n (pc := 5) hK 0 dX12_allVotes_5 rfl (z_getR (pc := 6) hK f_X12_13_11 ht0 dX12_allVotes_6 (z_iconst (pc := 9) hK dX12_allVotes_9 zc_i0 (z_iald (pc := 10) hK (zt_11_10 ht0) c_1 dX12_allVotes_10 (z_icmp_ge (pc := 11) hK 43 dX12_allVotes_11 (by decide) (fun c_2 => ?_) (fun c_2 => ?_))))))
    · rw [if_pos c_2] at hg
      exact z_iload_n (pc := 43) hK 1 dX12_allVotes_43 rfl (z_iretP (pc := 44) hK hE hg dX12_allVotes_44)
    · rw [if_neg c_2] at hg
      obtain ⟨v_3, qv_3, hg⟩ := zbind_some hg
      refine z_iload_n (pc := 14) hK 1 dX12_allVotes_14 rfl (z_aload_n (pc := 15) hK 0 dX12_allVotes_15 rfl (z_iload_n (pc := 16) hK 2 dX12_allVotes_16 rfl (z_callVi (pc := 17) hK [.int x2] (m_X12_isAlive (zC_D hK) ht0 qv_3) sv_X12_isAlive q_1628 ht0 rfl [.int x1] rfl (Nat.le_of_ble_eq_true rfl) ⟨by decide, by decide⟩ dX12_allVotes_17 (z_if_eq (pc := 20) hK 34 dX12_allVotes_20 (by decide) (fun c_4 => ?_) (fun c_4 => ?_)))))
      · rw [if_pos c_4] at hg
        exact z_iconst (pc := 34) hK dX12_allVotes_34 zc_i0 (z_iadd (pc := 35) hK dX12_allVotes_35 (z_istore_n (pc := 36) hK (lv' := [(1, .int (x1 + 0)), (0, .ref (G.2.2.2 t0)), (2, .int x2)]) dX12_allVotes_36 (by decide) rfl (z_iinc (pc := 37) hK 2 (lv' := [(2, .int (x2 + 1)), (1, .int (x1 + 0)), (0, .ref (G.2.2.2 t0))]) dX12_allVotes_37 rfl (zc_n1 _) (by decide) rfl (z_goto (pc := 40) hK 4 dX12_allVotes_40 (by decide) (zsub (lv' := [(0, .ref (G.2.2.2 t0)), (1, .int (x1 + 0)), (2, .int (x2 + 1))]) [2, 1, 0] rfl (ih (x1 + 0) (x2 + 1) hg))))))
      · rw [if_neg c_4] at hg
        obtain ⟨c_5, hg⟩ := zgu_some hg
        obtain ⟨v_6, ev_6, hg⟩ := zlet_some hg
        exact z_aload_n (pc := 23) hK 0 dX12_allVotes_23 rfl (z_getR (pc := 24) hK f_X12_105_11 ht0 dX12_allVotes_24 (z_iconst (pc := 27) hK dX12_allVotes_27 zc_i2 (z_iload_n (pc := 28) hK 2 dX12_allVotes_28 rfl (z_iadd (pc := 29) hK dX12_allVotes_29 (z_iald (pc := 30) hK (zt_11_44 ht0) c_5 dX12_allVotes_30 (z_goto (pc := 31) hK 35 dX12_allVotes_31 (by decide) (z_iadd (pc := 35) hK dX12_allVotes_35 (z_nameI ev_6 (z_istore_n (pc := 36) hK (lv' := [(1, .int v_6), (0, .ref (G.2.2.2 t0)), (2, .int x2)]) dX12_allVotes_36 (by decide) rfl (z_iinc (pc := 37) hK 2 (lv' := [(2, .int (x2 + 1)), (1, .int v_6), (0, .ref (G.2.2.2 t0))]) dX12_allVotes_37 rfl (zc_n1 _) (by decide) rfl (z_goto (pc := 40) hK 4 dX12_allVotes_40 (by decide) (zsub (lv' := [(0, .ref (G.2.2.2 t0)), (1, .int v_6), (2, .int (x2 + 1))]) [2, 1, 0] rfl (ih v_6 (x2 + 1) hg)))))))))))))
set_option maxRecDepth 100000 in
set_option maxHeartbeats 4000000 in
theorem b_X12_allVotes {K : zK} {G : zG} (hK : zC K G cX12_allVotes RX12 3 1 21 (some .int)) {h : zH} {t0 : Nat} (ht0 : zT t0 = (11, 0)) {r : Int32} (hE : zE K G (some (.int r)) h) (hg : g_X12_allVotes h t0 = some r) : zW K G 3 0 [(0, .ref (G.2.2.2 t0))] [] h := by
  rw [g_X12_allVotes] at hg
  exact z_iconst (pc := 0) hK dX12_allVotes_0 zc_i0 (z_istore_n (pc := 1) hK (lv' := [(1, .int 0), (0, .ref (G.2.2.2 t0))]) dX12_allVotes_1 (by decide) rfl (z_iconst (pc := 2) hK dX12_allVotes_2 zc_i0 (z_istore_n (pc := 3) hK (lv' := [(2, .int 0), (1, .int 0), (0, .ref (G.2.2.2 t0))]) dX12_allVotes_3 (by decide) rfl (zsub (lv' := [(0, .ref (G.2.2.2 t0)), (1, .int 0), (2, .int 0)]) [2, 1, 0] rfl (b_X12_allVotes_4 hK ht0 hE zfu 0 0 hg)))))
theorem m_X12_allVotes {l : Launch} {G : zG} (hG : zD G) {h : zH} {t0 : Nat} (ht0 : zT t0 = (11, 0)) {r : Int32} (hg : g_X12_allVotes h t0 = some r) : zM l G yX12_allVotes cX12_allVotes 3 (some .int) 1 21 [.ref (G.2.2.2 t0)] h (some (.int r)) h :=
  zM_of hG pn_X12 (Nat.le_of_ble_eq_true rfl) (fun K _ hK hE => b_X12_allVotes hK ht0 hE hg)
theorem dX12_bring_0 : decode cX12_bring 0 = .ok (.aload_n 0, 1) := by decide +kernel
theorem dX12_bring_1 : decode cX12_bring 1 = .ok (.iconst 0, 1) := by decide +kernel
theorem dX12_bring_2 : decode cX12_bring 2 = .ok (.putfield 126, 3) := by decide +kernel
theorem dX12_bring_5 : decode cX12_bring 5 = .ok (.aload_n 0, 1) := by decide +kernel
theorem dX12_bring_6 : decode cX12_bring 6 = .ok (.iload_n 1, 1) := by decide +kernel
theorem dX12_bring_7 : decode cX12_bring 7 = .ok (.invokevirtual 344, 3) := by decide +kernel
theorem dX12_bring_10 : decode cX12_bring 10 = .ok (.ifCond .eq 11, 3) := by decide +kernel
theorem dX12_bring_13 : decode cX12_bring 13 = .ok (.aload_n 0, 1) := by decide +kernel
theorem dX12_bring_14 : decode cX12_bring 14 = .ok (.iload_n 1, 1) := by decide +kernel
theorem dX12_bring_15 : decode cX12_bring 15 = .ok (.invokevirtual 350, 3) := by decide +kernel
theorem dX12_bring_18 : decode cX12_bring 18 = .ok (.ifCond .ne 5, 3) := by decide +kernel
theorem dX12_bring_21 : decode cX12_bring 21 = .ok (.iconst (-1), 1) := by decide +kernel
theorem dX12_bring_22 : decode cX12_bring 22 = .ok (.ireturn, 1) := by decide +kernel
theorem dX12_bring_23 : decode cX12_bring 23 = .ok (.aload_n 0, 1) := by decide +kernel
theorem dX12_bring_24 : decode cX12_bring 24 = .ok (.invokevirtual 431, 3) := by decide +kernel
theorem dX12_bring_27 : decode cX12_bring 27 = .ok (.aload_n 0, 1) := by decide +kernel
theorem dX12_bring_28 : decode cX12_bring 28 = .ok (.getfield 105, 3) := by decide +kernel
theorem dX12_bring_31 : decode cX12_bring 31 = .ok (.iconst 2, 1) := by decide +kernel
theorem dX12_bring_32 : decode cX12_bring 32 = .ok (.iload_n 1, 1) := by decide +kernel
theorem dX12_bring_33 : decode cX12_bring 33 = .ok (.iadd, 1) := by decide +kernel
theorem dX12_bring_34 : decode cX12_bring 34 = .ok (.iaload, 1) := by decide +kernel
theorem dX12_bring_35 : decode cX12_bring 35 = .ok (.isub, 1) := by decide +kernel
theorem dX12_bring_36 : decode cX12_bring 36 = .ok (.istore_n 2, 1) := by decide +kernel
theorem dX12_bring_37 : decode cX12_bring 37 = .ok (.iconst 0, 1) := by decide +kernel
theorem dX12_bring_38 : decode cX12_bring 38 = .ok (.istore_n 3, 1) := by decide +kernel
theorem dX12_bring_39 : decode cX12_bring 39 = .ok (.iconst 0, 1) := by decide +kernel
theorem dX12_bring_40 : decode cX12_bring 40 = .ok (.istore 4, 2) := by decide +kernel
theorem dX12_bring_42 : decode cX12_bring 42 = .ok (.iload 4, 2) := by decide +kernel
theorem dX12_bring_44 : decode cX12_bring 44 = .ok (.aload_n 0, 1) := by decide +kernel
theorem dX12_bring_45 : decode cX12_bring 45 = .ok (.getfield 13, 3) := by decide +kernel
theorem dX12_bring_48 : decode cX12_bring 48 = .ok (.iconst 0, 1) := by decide +kernel
theorem dX12_bring_49 : decode cX12_bring 49 = .ok (.iaload, 1) := by decide +kernel
theorem dX12_bring_50 : decode cX12_bring 50 = .ok (.if_icmp .ge 88, 3) := by decide +kernel
theorem dX12_bring_53 : decode cX12_bring 53 = .ok (.iload 4, 2) := by decide +kernel
theorem dX12_bring_55 : decode cX12_bring 55 = .ok (.iload_n 1, 1) := by decide +kernel
theorem dX12_bring_56 : decode cX12_bring 56 = .ok (.if_icmp .eq 76, 3) := by decide +kernel
theorem dX12_bring_59 : decode cX12_bring 59 = .ok (.aload_n 0, 1) := by decide +kernel
theorem dX12_bring_60 : decode cX12_bring 60 = .ok (.iload 4, 2) := by decide +kernel
theorem dX12_bring_62 : decode cX12_bring 62 = .ok (.invokevirtual 350, 3) := by decide +kernel
theorem dX12_bring_65 : decode cX12_bring 65 = .ok (.ifCond .ne 6, 3) := by decide +kernel
theorem dX12_bring_68 : decode cX12_bring 68 = .ok (.goto 64, 3) := by decide +kernel
theorem dX12_bring_71 : decode cX12_bring 71 = .ok (.iconst 0, 1) := by decide +kernel
theorem dX12_bring_72 : decode cX12_bring 72 = .ok (.istore 5, 2) := by decide +kernel
theorem dX12_bring_74 : decode cX12_bring 74 = .ok (.aload_n 0, 1) := by decide +kernel
theorem dX12_bring_75 : decode cX12_bring 75 = .ok (.iload_n 1, 1) := by decide +kernel
theorem dX12_bring_76 : decode cX12_bring 76 = .ok (.iload 4, 2) := by decide +kernel
theorem dX12_bring_78 : decode cX12_bring 78 = .ok (.invokevirtual 359, 3) := by decide +kernel
theorem dX12_bring_81 : decode cX12_bring 81 = .ok (.ifCond .ne 20, 3) := by decide +kernel
theorem dX12_bring_84 : decode cX12_bring 84 = .ok (.aload_n 0, 1) := by decide +kernel
theorem dX12_bring_85 : decode cX12_bring 85 = .ok (.getfield 120, 3) := by decide +kernel
theorem dX12_bring_88 : decode cX12_bring 88 = .ok (.iload 4, 2) := by decide +kernel
theorem dX12_bring_90 : decode cX12_bring 90 = .ok (.dup2, 1) := by decide +kernel
theorem dX12_bring_91 : decode cX12_bring 91 = .ok (.iaload, 1) := by decide +kernel
theorem dX12_bring_92 : decode cX12_bring 92 = .ok (.iconst 1, 1) := by decide +kernel
theorem dX12_bring_93 : decode cX12_bring 93 = .ok (.iadd, 1) := by decide +kernel
theorem dX12_bring_94 : decode cX12_bring 94 = .ok (.iastore, 1) := by decide +kernel
theorem dX12_bring_95 : decode cX12_bring 95 = .ok (.iinc 5 1, 3) := by decide +kernel
theorem dX12_bring_98 : decode cX12_bring 98 = .ok (.goto (-24), 3) := by decide +kernel
theorem dX12_bring_101 : decode cX12_bring 101 = .ok (.aload_n 0, 1) := by decide +kernel
theorem dX12_bring_102 : decode cX12_bring 102 = .ok (.getfield 120, 3) := by decide +kernel
theorem dX12_bring_105 : decode cX12_bring 105 = .ok (.iload 4, 2) := by decide +kernel
theorem dX12_bring_107 : decode cX12_bring 107 = .ok (.iconst 0, 1) := by decide +kernel
theorem dX12_bring_108 : decode cX12_bring 108 = .ok (.iastore, 1) := by decide +kernel
theorem dX12_bring_109 : decode cX12_bring 109 = .ok (.iload 5, 2) := by decide +kernel
theorem dX12_bring_111 : decode cX12_bring 111 = .ok (.iload_n 2, 1) := by decide +kernel
theorem dX12_bring_112 : decode cX12_bring 112 = .ok (.aload_n 0, 1) := by decide +kernel
theorem dX12_bring_113 : decode cX12_bring 113 = .ok (.getfield 105, 3) := by decide +kernel
theorem dX12_bring_116 : decode cX12_bring 116 = .ok (.iconst 2, 1) := by decide +kernel
theorem dX12_bring_117 : decode cX12_bring 117 = .ok (.iload 4, 2) := by decide +kernel
theorem dX12_bring_119 : decode cX12_bring 119 = .ok (.iadd, 1) := by decide +kernel
theorem dX12_bring_120 : decode cX12_bring 120 = .ok (.iaload, 1) := by decide +kernel
theorem dX12_bring_121 : decode cX12_bring 121 = .ok (.isub, 1) := by decide +kernel
theorem dX12_bring_122 : decode cX12_bring 122 = .ok (.if_icmp .le 5, 3) := by decide +kernel
theorem dX12_bring_125 : decode cX12_bring 125 = .ok (.iconst (-1), 1) := by decide +kernel
theorem dX12_bring_126 : decode cX12_bring 126 = .ok (.ireturn, 1) := by decide +kernel
theorem dX12_bring_127 : decode cX12_bring 127 = .ok (.iload_n 3, 1) := by decide +kernel
theorem dX12_bring_128 : decode cX12_bring 128 = .ok (.iload 5, 2) := by decide +kernel
theorem dX12_bring_130 : decode cX12_bring 130 = .ok (.iadd, 1) := by decide +kernel
theorem dX12_bring_131 : decode cX12_bring 131 = .ok (.istore_n 3, 1) := by decide +kernel
theorem dX12_bring_132 : decode cX12_bring 132 = .ok (.iinc 4 1, 3) := by decide +kernel
theorem dX12_bring_135 : decode cX12_bring 135 = .ok (.goto (-93), 3) := by decide +kernel
theorem dX12_bring_138 : decode cX12_bring 138 = .ok (.iload_n 3, 1) := by decide +kernel
theorem dX12_bring_139 : decode cX12_bring 139 = .ok (.iload_n 2, 1) := by decide +kernel
theorem dX12_bring_140 : decode cX12_bring 140 = .ok (.if_icmp .le 7, 3) := by decide +kernel
theorem dX12_bring_143 : decode cX12_bring 143 = .ok (.iconst (-1), 1) := by decide +kernel
theorem dX12_bring_144 : decode cX12_bring 144 = .ok (.goto 4, 3) := by decide +kernel
theorem dX12_bring_147 : decode cX12_bring 147 = .ok (.iload_n 3, 1) := by decide +kernel
theorem dX12_bring_148 : decode cX12_bring 148 = .ok (.ireturn, 1) := by decide +kernel
def g_X12_bring_74 (t0 : Nat) (k42 : Int32 → Int32 → Int32 → Int32 → zH → Option (Int32 × zH)) : Nat → Int32 → Int32 → Int32 → Int32 → Int32 → zH → Option (Int32 × zH)
  | 0, _, _, _, _, _, _ => none
  | n + 1, x1, x2, x3, x4, x5, h => (g_X12_isAhead h t0 x1 x4).bind fun v_15 => if (zb v_15) = 0 then (zgu (zin x4 7) <| zgu (zin x4 7) <| zlet (zpi h (zR t0 50) (zx x4) ((h.1 (zR t0 50) (zx x4)) + 1)) fun h_23 => g_X12_bring_74 t0 k42 n x1 x2 x3 x4 (x5 + 1) h_23) else (zgu (zin x4 7) <| zlet (zpi h (zR t0 50) (zx x4) 0) fun h_18 => zgu (zin (2 + x4) 107) <| if x5 ≤ (x2 - (h_18.1 (zR t0 44) (zx (2 + x4)))) then (k42 x1 x2 (x3 + x5) (x4 + 1) h_18) else (some ((-1), h_18)))
def g_X12_bring_42 (t0 : Nat)  : Nat → Int32 → Int32 → Int32 → Int32 → zH → Option (Int32 × zH)
  | 0, _, _, _, _, _ => none
  | n + 1, x1, x2, x3, x4, h => zgu (zin 0 8) <| if (h.1 (zR t0 10) (zx 0)) ≤ x4 then (if x3 ≤ x2 then (some (x3, h)) else (some ((-1), h))) else (if x4 = x1 then (g_X12_bring_42 t0 n x1 x2 x3 (x4 + 1) h) else ((g_X12_isAlive h t0 x4).bind fun v_13 => if (zb v_13) = 0 then (g_X12_bring_42 t0 n x1 x2 x3 (x4 + 1) h) else (g_X12_bring_74 t0 (g_X12_bring_42 t0 n) zfu x1 x2 x3 x4 0 h)))
def g_X12_bring (h : zH) (t0 : Nat) (x1 : Int32) : Option (Int32 × zH) := zlet (zpi h t0 0 0) fun h_1 => (g_X12_isPerson h_1 t0 x1).bind fun v_2 => if (zb v_2) = 0 then (some ((-1), h_1)) else ((g_X12_isAlive h_1 t0 x1).bind fun v_4 => if (zb v_4) = 0 then (some ((-1), h_1)) else ((g_X12_allVotes h_1 t0).bind fun v_6 => zgu (zin (2 + x1) 107) <| zlet (v_6 - (h_1.1 (zR t0 44) (zx (2 + x1)))) fun v_8 => g_X12_bring_42 t0 zfu x1 v_8 0 0 h_1))
set_option maxRecDepth 100000 in
set_option maxHeartbeats 4000000 in
theorem b_X12_bring_74 {K : zK} {G : zG} (hK : zC K G cX12_bring RX12 6 3 68 (some .int)) {t0 : Nat} (ht0 : zT t0 = (11, 0)) {r : Int32 × zH} (hE : zE K G (some (.int r.1)) r.2) {k42 : Int32 → Int32 → Int32 → Int32 → zH → Option (Int32 × zH)} (hk42 : ∀ (x1 : Int32) (x2 : Int32) (x3 : Int32) (x4 : Int32) (h : zH), k42 x1 x2 x3 x4 h = some r → zW K G 6 42 [(0, .ref (G.2.2.2 t0)), (1, .int x1), (2, .int x2), (3, .int x3), (4, .int x4)] [] h) : ∀ (n : Nat) (x1 : Int32) (x2 : Int32) (x3 : Int32) (x4 : Int32) (x5 : Int32) (h : zH), g_X12_bring_74 t0 k42 n x1 x2 x3 x4 x5 h = some r → zW K G 6 74 [(0, .ref (G.2.2.2 t0)), (1, .int x1), (2, .int x2), (3, .int x3), (4, .int x4), (5, .int x5)] [] h := by
  intro n
  induction n with
  | zero => intro x1 x2 x3 x4 x5 h hg; exact nomatch (show none = some r from hg)
  | succ n ih =>
    intro x1 x2 x3 x4 x5 h hg
    rw [g_X12_bring_74] at hg
    obtain ⟨v_15, qv_15, hg⟩ := zbind_some hg
    refine z_aload_n (pc := 74) hK 0 dX12_bring_74 rfl (z_iload_n (pc := 75) hK 1 dX12_bring_75 rfl (z_iload (pc := 76) hK 4 dX12_bring_76 rfl (z_callVi (pc := 78) hK [.int x1, .int x4] (m_X12_isAhead (zC_D hK) ht0 qv_15) sv_X12_isAhead q_1656 ht0 rfl [] rfl (Nat.le_of_ble_eq_true rfl) ⟨by decide, by decide⟩ dX12_bring_78 (z_if_ne (pc := 81) hK 101 dX12_bring_81 (by decide) (fun c_16 => ?_) (fun c_16 => ?_)))))
    · rw [if_neg c_16] at hg
      obtain ⟨c_17, hg⟩ := zgu_some hg
      obtain ⟨h_18, eh_18, hg⟩ := zlet_some hg
      obtain ⟨c_19, hg⟩ := zgu_some hg
      refine z_aload_n (pc := 101) hK 0 dX12_bring_101 rfl (z_getR (pc := 102) hK f_X12_120_11 ht0 dX12_bring_102 (z_iload (pc := 105) hK 4 dX12_bring_105 rfl (z_iconst (pc := 107) hK dX12_bring_107 zc_i0 (z_iast (pc := 108) hK (zt_11_50 ht0) c_17 dX12_bring_108 (z_nameH eh_18 (z_iload (pc := 109) hK 5 dX12_bring_109 rfl (z_iload_n (pc := 111) hK 2 dX12_bring_111 rfl (z_aload_n (pc := 112) hK 0 dX12_bring_112 rfl (z_getR (pc := 113) hK f_X12_105_11 ht0 dX12_bring_113 (z_iconst (pc := 116) hK dX12_bring_116 zc_i2 (z_iload (pc := 117) hK 4 dX12_bring_117 rfl (z_iadd (pc := 119) hK dX12_bring_119 (z_iald (pc := 120) hK (zt_11_44 ht0) c_19 dX12_bring_120 (z_isub (pc := 121) hK dX12_bring_121 (z_icmp_le (pc := 122) hK 127 dX12_bring_122 (by decide) (fun c_20 => ?_) (fun c_20 => ?_))))))))))))))))
      · rw [if_pos c_20] at hg
        exact z_iload_n (pc := 127) hK 3 dX12_bring_127 rfl (z_iload (pc := 128) hK 5 dX12_bring_128 rfl (z_iadd (pc := 130) hK dX12_bring_130 (z_istore_n (pc := 131) hK (lv' := [(3, .int (x3 + x5)), (0, .ref (G.2.2.2 t0)), (1, .int x1), (2, .int x2), (4, .int x4), (5, .int x5)]) dX12_bring_131 (by decide) rfl (z_iinc (pc := 132) hK 4 (lv' := [(4, .int (x4 + 1)), (3, .int (x3 + x5)), (0, .ref (G.2.2.2 t0)), (1, .int x1), (2, .int x2), (5, .int x5)]) dX12_bring_132 rfl (zc_n1 _) (by decide) rfl (z_goto (pc := 135) hK 42 dX12_bring_135 (by decide) (zsub (lv' := [(0, .ref (G.2.2.2 t0)), (1, .int x1), (2, .int x2), (3, .int (x3 + x5)), (4, .int (x4 + 1))]) [2, 3, 4, 1, 0] rfl (hk42 x1 x2 (x3 + x5) (x4 + 1) h_18 hg)))))))
      · rw [if_neg c_20] at hg
        exact z_iconst (pc := 125) hK dX12_bring_125 zc_im1 (z_iretE (pc := 126) hK hE hg dX12_bring_126)
    · rw [if_pos c_16] at hg
      obtain ⟨c_21, hg⟩ := zgu_some hg
      obtain ⟨c_22, hg⟩ := zgu_some hg
      obtain ⟨h_23, eh_23, hg⟩ := zlet_some hg
      exact z_aload_n (pc := 84) hK 0 dX12_bring_84 rfl (z_getR (pc := 85) hK f_X12_120_11 ht0 dX12_bring_85 (z_iload (pc := 88) hK 4 dX12_bring_88 rfl (z_dup2 (pc := 90) hK dX12_bring_90 rfl rfl (z_iald (pc := 91) hK (zt_11_50 ht0) c_21 dX12_bring_91 (z_iconst (pc := 92) hK dX12_bring_92 zc_i1 (z_iadd (pc := 93) hK dX12_bring_93 (z_iast (pc := 94) hK (zt_11_50 ht0) c_22 dX12_bring_94 (z_nameH eh_23 (z_iinc (pc := 95) hK 5 (lv' := [(5, .int (x5 + 1)), (0, .ref (G.2.2.2 t0)), (1, .int x1), (2, .int x2), (3, .int x3), (4, .int x4)]) dX12_bring_95 rfl (zc_n1 _) (by decide) rfl (z_goto (pc := 98) hK 74 dX12_bring_98 (by decide) (zsub (lv' := [(0, .ref (G.2.2.2 t0)), (1, .int x1), (2, .int x2), (3, .int x3), (4, .int x4), (5, .int (x5 + 1))]) [1, 2, 3, 4, 5, 0] rfl (ih x1 x2 x3 x4 (x5 + 1) h_23 hg))))))))))))
set_option maxRecDepth 100000 in
set_option maxHeartbeats 4000000 in
theorem b_X12_bring_42 {K : zK} {G : zG} (hK : zC K G cX12_bring RX12 6 3 68 (some .int)) {t0 : Nat} (ht0 : zT t0 = (11, 0)) {r : Int32 × zH} (hE : zE K G (some (.int r.1)) r.2) : ∀ (n : Nat) (x1 : Int32) (x2 : Int32) (x3 : Int32) (x4 : Int32) (h : zH), g_X12_bring_42 t0 n x1 x2 x3 x4 h = some r → zW K G 6 42 [(0, .ref (G.2.2.2 t0)), (1, .int x1), (2, .int x2), (3, .int x3), (4, .int x4)] [] h := by
  intro n
  induction n with
  | zero => intro x1 x2 x3 x4 h hg; exact nomatch (show none = some r from hg)
  | succ n ih =>
    intro x1 x2 x3 x4 h hg
    rw [g_X12_bring_42] at hg
    obtain ⟨c_9, hg⟩ := zgu_some hg
    refine z_iload (pc := 42) hK 4 dX12_bring_42 rfl (z_aload_n (pc := 44) hK 0 dX12_bring_44 rfl (z_getR (pc := 45) hK f_X12_13_11 ht0 dX12_bring_45 (z_iconst (pc := 48) hK dX12_bring_48 zc_i0 (z_iald (pc := 49) hK (zt_11_10 ht0) c_9 dX12_bring_49 (z_icmp_ge (pc := 50) hK 138 dX12_bring_50 (by decide) (fun c_10 => ?_) (fun c_10 => ?_))))))
    · rw [if_pos c_10] at hg
      refine z_iload_n (pc := 138) hK 3 dX12_bring_138 rfl (z_iload_n (pc := 139) hK 2 dX12_bring_139 rfl (z_icmp_le (pc := 140) hK 147 dX12_bring_140 (by decide) (fun c_11 => ?_) (fun c_11 => ?_)))
      · rw [if_pos c_11] at hg
        exact z_iload_n (pc := 147) hK 3 dX12_bring_147 rfl (z_iretE (pc := 148) hK hE hg dX12_bring_148)
      · rw [if_neg c_11] at hg
        exact z_iconst (pc := 143) hK dX12_bring_143 zc_im1 (z_goto (pc := 144) hK 148 dX12_bring_144 (by decide) (z_iretE (pc := 148) hK hE hg dX12_bring_148))
    · rw [if_neg c_10] at hg
      refine z_iload (pc := 53) hK 4 dX12_bring_53 rfl (z_iload_n (pc := 55) hK 1 dX12_bring_55 rfl (z_icmp_eq (pc := 56) hK 132 dX12_bring_56 (by decide) (fun c_12 => ?_) (fun c_12 => ?_)))
      · rw [if_pos c_12] at hg
        exact z_iinc (pc := 132) hK 4 (lv' := [(4, .int (x4 + 1)), (0, .ref (G.2.2.2 t0)), (1, .int x1), (2, .int x2), (3, .int x3)]) dX12_bring_132 rfl (zc_n1 _) (by decide) rfl (z_goto (pc := 135) hK 42 dX12_bring_135 (by decide) (zsub (lv' := [(0, .ref (G.2.2.2 t0)), (1, .int x1), (2, .int x2), (3, .int x3), (4, .int (x4 + 1))]) [1, 2, 3, 4, 0] rfl (ih x1 x2 x3 (x4 + 1) h hg)))
      · rw [if_neg c_12] at hg
        obtain ⟨v_13, qv_13, hg⟩ := zbind_some hg
        refine z_aload_n (pc := 59) hK 0 dX12_bring_59 rfl (z_iload (pc := 60) hK 4 dX12_bring_60 rfl (z_callVi (pc := 62) hK [.int x4] (m_X12_isAlive (zC_D hK) ht0 qv_13) sv_X12_isAlive q_1628 ht0 rfl [] rfl (Nat.le_of_ble_eq_true rfl) ⟨by decide, by decide⟩ dX12_bring_62 (z_if_ne (pc := 65) hK 71 dX12_bring_65 (by decide) (fun c_14 => ?_) (fun c_14 => ?_))))
        · rw [if_neg c_14] at hg
          exact z_iconst (pc := 71) hK dX12_bring_71 zc_i0 (z_istore (pc := 72) hK (lv' := [(5, .int 0), (0, .ref (G.2.2.2 t0)), (1, .int x1), (2, .int x2), (3, .int x3), (4, .int x4)]) dX12_bring_72 (by decide) rfl (zsub (lv' := [(0, .ref (G.2.2.2 t0)), (1, .int x1), (2, .int x2), (3, .int x3), (4, .int x4), (5, .int 0)]) [1, 2, 3, 4, 5, 0] rfl (b_X12_bring_74 hK ht0 hE ih zfu x1 x2 x3 x4 0 h hg)))
        · rw [if_pos c_14] at hg
          exact z_goto (pc := 68) hK 132 dX12_bring_68 (by decide) (z_iinc (pc := 132) hK 4 (lv' := [(4, .int (x4 + 1)), (0, .ref (G.2.2.2 t0)), (1, .int x1), (2, .int x2), (3, .int x3)]) dX12_bring_132 rfl (zc_n1 _) (by decide) rfl (z_goto (pc := 135) hK 42 dX12_bring_135 (by decide) (zsub (lv' := [(0, .ref (G.2.2.2 t0)), (1, .int x1), (2, .int x2), (3, .int x3), (4, .int (x4 + 1))]) [1, 2, 3, 4, 0] rfl (ih x1 x2 x3 (x4 + 1) h hg))))
set_option maxRecDepth 100000 in
set_option maxHeartbeats 4000000 in
theorem b_X12_bring {K : zK} {G : zG} (hK : zC K G cX12_bring RX12 6 3 68 (some .int)) {h : zH} {t0 : Nat} {x1 : Int32} (ht0 : zT t0 = (11, 0)) {r : Int32 × zH} (hE : zE K G (some (.int r.1)) r.2) (hg : g_X12_bring h t0 x1 = some r) : zW K G 6 0 [(0, .ref (G.2.2.2 t0)), (1, .int x1)] [] h := by
  rw [g_X12_bring] at hg
  obtain ⟨h_1, eh_1, hg⟩ := zlet_some hg
  obtain ⟨v_2, qv_2, hg⟩ := zbind_some hg
  refine z_aload_n (pc := 0) hK 0 dX12_bring_0 rfl (z_iconst (pc := 1) hK dX12_bring_1 zc_i0 (z_putI (pc := 2) hK f_X12_126_11 fp_11_0 ht0 dX12_bring_2 (z_nameH eh_1 (z_aload_n (pc := 5) hK 0 dX12_bring_5 rfl (z_iload_n (pc := 6) hK 1 dX12_bring_6 rfl (z_callVi (pc := 7) hK [.int x1] (m_X12_isPerson (zC_D hK) ht0 qv_2) sv_X12_isPerson q_1620 ht0 rfl [] rfl (Nat.le_of_ble_eq_true rfl) ⟨by decide, by decide⟩ dX12_bring_7 (z_if_eq (pc := 10) hK 21 dX12_bring_10 (by decide) (fun c_3 => ?_) (fun c_3 => ?_))))))))
  · rw [if_pos c_3] at hg
    exact z_iconst (pc := 21) hK dX12_bring_21 zc_im1 (z_iretE (pc := 22) hK hE hg dX12_bring_22)
  · rw [if_neg c_3] at hg
    obtain ⟨v_4, qv_4, hg⟩ := zbind_some hg
    refine z_aload_n (pc := 13) hK 0 dX12_bring_13 rfl (z_iload_n (pc := 14) hK 1 dX12_bring_14 rfl (z_callVi (pc := 15) hK [.int x1] (m_X12_isAlive (zC_D hK) ht0 qv_4) sv_X12_isAlive q_1628 ht0 rfl [] rfl (Nat.le_of_ble_eq_true rfl) ⟨by decide, by decide⟩ dX12_bring_15 (z_if_ne (pc := 18) hK 23 dX12_bring_18 (by decide) (fun c_5 => ?_) (fun c_5 => ?_))))
    · rw [if_neg c_5] at hg
      obtain ⟨v_6, qv_6, hg⟩ := zbind_some hg
      obtain ⟨c_7, hg⟩ := zgu_some hg
      obtain ⟨v_8, ev_8, hg⟩ := zlet_some hg
      exact z_aload_n (pc := 23) hK 0 dX12_bring_23 rfl (z_callVi (pc := 24) hK [] (m_X12_allVotes (zC_D hK) ht0 qv_6) sv_X12_allVotes q_1780 ht0 rfl [] rfl (Nat.le_of_ble_eq_true rfl) ⟨by decide, by decide⟩ dX12_bring_24 (z_aload_n (pc := 27) hK 0 dX12_bring_27 rfl (z_getR (pc := 28) hK f_X12_105_11 ht0 dX12_bring_28 (z_iconst (pc := 31) hK dX12_bring_31 zc_i2 (z_iload_n (pc := 32) hK 1 dX12_bring_32 rfl (z_iadd (pc := 33) hK dX12_bring_33 (z_iald (pc := 34) hK (zt_11_44 ht0) c_7 dX12_bring_34 (z_isub (pc := 35) hK dX12_bring_35 (z_nameI ev_8 (z_istore_n (pc := 36) hK (lv' := [(2, .int v_8), (0, .ref (G.2.2.2 t0)), (1, .int x1)]) dX12_bring_36 (by decide) rfl (z_iconst (pc := 37) hK dX12_bring_37 zc_i0 (z_istore_n (pc := 38) hK (lv' := [(3, .int 0), (2, .int v_8), (0, .ref (G.2.2.2 t0)), (1, .int x1)]) dX12_bring_38 (by decide) rfl (z_iconst (pc := 39) hK dX12_bring_39 zc_i0 (z_istore (pc := 40) hK (lv' := [(4, .int 0), (3, .int 0), (2, .int v_8), (0, .ref (G.2.2.2 t0)), (1, .int x1)]) dX12_bring_40 (by decide) rfl (zsub (lv' := [(0, .ref (G.2.2.2 t0)), (1, .int x1), (2, .int v_8), (3, .int 0), (4, .int 0)]) [3, 4, 2, 1, 0] rfl (b_X12_bring_42 hK ht0 hE zfu x1 v_8 0 0 h_1 hg))))))))))))))))
    · rw [if_pos c_5] at hg
      exact z_iconst (pc := 21) hK dX12_bring_21 zc_im1 (z_iretE (pc := 22) hK hE hg dX12_bring_22)
theorem m_X12_bring {l : Launch} {G : zG} (hG : zD G) {h : zH} {t0 : Nat} {x1 : Int32} (ht0 : zT t0 = (11, 0)) {r : Int32 × zH} (hg : g_X12_bring h t0 x1 = some r) : zM l G yX12_bring cX12_bring 6 (some .int) 3 68 [.ref (G.2.2.2 t0), .int x1] h (some (.int r.1)) r.2 :=
  zM_of hG pn_X12 (Nat.le_of_ble_eq_true rfl) (fun K _ hK hE => b_X12_bring hK ht0 hE hg)
theorem dX12_isOther_0 : decode cX12_isOther 0 = .ok (.aload_n 0, 1) := by decide +kernel
theorem dX12_isOther_1 : decode cX12_isOther 1 = .ok (.getfield 105, 3) := by decide +kernel
theorem dX12_isOther_4 : decode cX12_isOther 4 = .ok (.iconst 1, 1) := by decide +kernel
theorem dX12_isOther_5 : decode cX12_isOther 5 = .ok (.iaload, 1) := by decide +kernel
theorem dX12_isOther_6 : decode cX12_isOther 6 = .ok (.iconst 1, 1) := by decide +kernel
theorem dX12_isOther_7 : decode cX12_isOther 7 = .ok (.iload_n 1, 1) := by decide +kernel
theorem dX12_isOther_8 : decode cX12_isOther 8 = .ok (.ishl, 1) := by decide +kernel
theorem dX12_isOther_9 : decode cX12_isOther 9 = .ok (.iconst (-1), 1) := by decide +kernel
theorem dX12_isOther_10 : decode cX12_isOther 10 = .ok (.ixor, 1) := by decide +kernel
theorem dX12_isOther_11 : decode cX12_isOther 11 = .ok (.iand, 1) := by decide +kernel
theorem dX12_isOther_12 : decode cX12_isOther 12 = .ok (.ifCond .eq 7, 3) := by decide +kernel
theorem dX12_isOther_15 : decode cX12_isOther 15 = .ok (.iconst 1, 1) := by decide +kernel
theorem dX12_isOther_16 : decode cX12_isOther 16 = .ok (.goto 4, 3) := by decide +kernel
theorem dX12_isOther_19 : decode cX12_isOther 19 = .ok (.iconst 0, 1) := by decide +kernel
theorem dX12_isOther_20 : decode cX12_isOther 20 = .ok (.ireturn, 1) := by decide +kernel
def g_X12_isOther (h : zH) (t0 : Nat) (x1 : Int32) : Option Bool := zgu (zin 1 107) <| if ((h.1 (zR t0 44) (zx 1)) &&& (((1 : Int32) <<< (x1 &&& 31)) ^^^ (-1))) = 0 then (some false) else (some true)
set_option maxRecDepth 100000 in
set_option maxHeartbeats 4000000 in
theorem b_X12_isOther {K : zK} {G : zG} (hK : zC K G cX12_isOther RX12 2 0 0 (some .boolean)) {h : zH} {t0 : Nat} {x1 : Int32} (ht0 : zT t0 = (11, 0)) {r : Bool} (hE : zE K G (some (.int (zb r))) h) (hg : g_X12_isOther h t0 x1 = some r) : zW K G 2 0 [(0, .ref (G.2.2.2 t0)), (1, .int x1)] [] h := by
  rw [g_X12_isOther] at hg
  obtain ⟨c_1, hg⟩ := zgu_some hg
  refine z_aload_n (pc := 0) hK 0 dX12_isOther_0 rfl (z_getR (pc := 1) hK f_X12_105_11 ht0 dX12_isOther_1 (z_iconst (pc := 4) hK dX12_isOther_4 zc_i1 (z_iald (pc := 5) hK (zt_11_44 ht0) c_1 dX12_isOther_5 (z_iconst (pc := 6) hK dX12_isOther_6 zc_i1 (z_iload_n (pc := 7) hK 1 dX12_isOther_7 rfl (z_ishl (pc := 8) hK dX12_isOther_8 (z_iconst (pc := 9) hK dX12_isOther_9 zc_im1 (z_ixor (pc := 10) hK dX12_isOther_10 (z_iand (pc := 11) hK dX12_isOther_11 (z_if_eq (pc := 12) hK 19 dX12_isOther_12 (by decide) (fun c_2 => ?_) (fun c_2 => ?_)))))))))))
  · rw [if_pos c_2] at hg
    exact z_iconst (pc := 19) hK dX12_isOther_19 zc_i0 (z_zretP (pc := 20) hK rfl hE hg dX12_isOther_20)
  · rw [if_neg c_2] at hg
    exact z_iconst (pc := 15) hK dX12_isOther_15 zc_i1 (z_goto (pc := 16) hK 20 dX12_isOther_16 (by decide) (z_zretP (pc := 20) hK rfl hE hg dX12_isOther_20))
theorem m_X12_isOther {l : Launch} {G : zG} (hG : zD G) {h : zH} {t0 : Nat} {x1 : Int32} (ht0 : zT t0 = (11, 0)) {r : Bool} (hg : g_X12_isOther h t0 x1 = some r) : zM l G yX12_isOther cX12_isOther 2 (some .boolean) 0 0 [.ref (G.2.2.2 t0), .int x1] h (some (.int (zb r))) h :=
  zM_of hG pn_X12 (Nat.le_of_ble_eq_true rfl) (fun K _ hK hE => b_X12_isOther hK ht0 hE hg)
theorem dX12_bears_0 : decode cX12_bears 0 = .ok (.aload_n 0, 1) := by decide +kernel
theorem dX12_bears_1 : decode cX12_bears 1 = .ok (.iconst 0, 1) := by decide +kernel
theorem dX12_bears_2 : decode cX12_bears 2 = .ok (.putfield 126, 3) := by decide +kernel
theorem dX12_bears_5 : decode cX12_bears 5 = .ok (.aload_n 0, 1) := by decide +kernel
theorem dX12_bears_6 : decode cX12_bears 6 = .ok (.iload_n 1, 1) := by decide +kernel
theorem dX12_bears_7 : decode cX12_bears 7 = .ok (.invokevirtual 344, 3) := by decide +kernel
theorem dX12_bears_10 : decode cX12_bears 10 = .ok (.ifCond .eq 19, 3) := by decide +kernel
theorem dX12_bears_13 : decode cX12_bears 13 = .ok (.aload_n 0, 1) := by decide +kernel
theorem dX12_bears_14 : decode cX12_bears 14 = .ok (.invokevirtual 379, 3) := by decide +kernel
theorem dX12_bears_17 : decode cX12_bears 17 = .ok (.iload_n 1, 1) := by decide +kernel
theorem dX12_bears_18 : decode cX12_bears 18 = .ok (.if_icmp .ne 11, 3) := by decide +kernel
theorem dX12_bears_21 : decode cX12_bears 21 = .ok (.aload_n 0, 1) := by decide +kernel
theorem dX12_bears_22 : decode cX12_bears 22 = .ok (.iload_n 1, 1) := by decide +kernel
theorem dX12_bears_23 : decode cX12_bears 23 = .ok (.invokevirtual 434, 3) := by decide +kernel
theorem dX12_bears_26 : decode cX12_bears 26 = .ok (.ifCond .ne 5, 3) := by decide +kernel
theorem dX12_bears_29 : decode cX12_bears 29 = .ok (.iconst (-1), 1) := by decide +kernel
theorem dX12_bears_30 : decode cX12_bears 30 = .ok (.ireturn, 1) := by decide +kernel
theorem dX12_bears_31 : decode cX12_bears 31 = .ok (.iconst (-1), 1) := by decide +kernel
theorem dX12_bears_32 : decode cX12_bears 32 = .ok (.istore_n 2, 1) := by decide +kernel
theorem dX12_bears_33 : decode cX12_bears 33 = .ok (.aload_n 0, 1) := by decide +kernel
theorem dX12_bears_34 : decode cX12_bears 34 = .ok (.invokevirtual 379, 3) := by decide +kernel
theorem dX12_bears_37 : decode cX12_bears 37 = .ok (.iload_n 1, 1) := by decide +kernel
theorem dX12_bears_38 : decode cX12_bears 38 = .ok (.if_icmp .ne 19, 3) := by decide +kernel
theorem dX12_bears_41 : decode cX12_bears 41 = .ok (.aload_n 0, 1) := by decide +kernel
theorem dX12_bears_42 : decode cX12_bears 42 = .ok (.getfield 120, 3) := by decide +kernel
theorem dX12_bears_45 : decode cX12_bears 45 = .ok (.iload_n 1, 1) := by decide +kernel
theorem dX12_bears_46 : decode cX12_bears 46 = .ok (.dup2, 1) := by decide +kernel
theorem dX12_bears_47 : decode cX12_bears 47 = .ok (.iaload, 1) := by decide +kernel
theorem dX12_bears_48 : decode cX12_bears 48 = .ok (.iconst 1, 1) := by decide +kernel
theorem dX12_bears_49 : decode cX12_bears 49 = .ok (.iadd, 1) := by decide +kernel
theorem dX12_bears_50 : decode cX12_bears 50 = .ok (.iastore, 1) := by decide +kernel
theorem dX12_bears_51 : decode cX12_bears 51 = .ok (.iinc 2 1, 3) := by decide +kernel
theorem dX12_bears_54 : decode cX12_bears 54 = .ok (.goto (-21), 3) := by decide +kernel
theorem dX12_bears_57 : decode cX12_bears 57 = .ok (.aload_n 0, 1) := by decide +kernel
theorem dX12_bears_58 : decode cX12_bears 58 = .ok (.getfield 120, 3) := by decide +kernel
theorem dX12_bears_61 : decode cX12_bears 61 = .ok (.iload_n 1, 1) := by decide +kernel
theorem dX12_bears_62 : decode cX12_bears 62 = .ok (.iconst 0, 1) := by decide +kernel
theorem dX12_bears_63 : decode cX12_bears 63 = .ok (.iastore, 1) := by decide +kernel
theorem dX12_bears_64 : decode cX12_bears 64 = .ok (.iload_n 2, 1) := by decide +kernel
theorem dX12_bears_65 : decode cX12_bears 65 = .ok (.ireturn, 1) := by decide +kernel
def g_X12_bears_33 (t0 : Nat)  : Nat → Int32 → Int32 → zH → Option (Int32 × zH)
  | 0, _, _, _ => none
  | n + 1, x1, x2, h => (g_X12_governor h t0).bind fun v_8 => if v_8 = x1 then (zgu (zin x1 7) <| zgu (zin x1 7) <| zlet (zpi h (zR t0 50) (zx x1) ((h.1 (zR t0 50) (zx x1)) + 1)) fun h_14 => g_X12_bears_33 t0 n x1 (x2 + 1) h_14) else (zgu (zin x1 7) <| zlet (zpi h (zR t0 50) (zx x1) 0) fun h_11 => some (x2, h_11))
def g_X12_bears (h : zH) (t0 : Nat) (x1 : Int32) : Option (Int32 × zH) := zlet (zpi h t0 0 0) fun h_1 => (g_X12_isPerson h_1 t0 x1).bind fun v_2 => if (zb v_2) = 0 then (some ((-1), h_1)) else ((g_X12_governor h_1 t0).bind fun v_4 => if v_4 = x1 then ((g_X12_isOther h_1 t0 x1).bind fun v_6 => if (zb v_6) = 0 then (some ((-1), h_1)) else (g_X12_bears_33 t0 zfu x1 (-1) h_1)) else (some ((-1), h_1)))
set_option maxRecDepth 100000 in
set_option maxHeartbeats 4000000 in
theorem b_X12_bears_33 {K : zK} {G : zG} (hK : zC K G cX12_bears RX12 3 4 90 (some .int)) {t0 : Nat} (ht0 : zT t0 = (11, 0)) {r : Int32 × zH} (hE : zE K G (some (.int r.1)) r.2) : ∀ (n : Nat) (x1 : Int32) (x2 : Int32) (h : zH), g_X12_bears_33 t0 n x1 x2 h = some r → zW K G 3 33 [(0, .ref (G.2.2.2 t0)), (1, .int x1), (2, .int x2)] [] h := by
  intro n
  induction n with
  | zero => intro x1 x2 h hg; exact nomatch (show none = some r from hg)
  | succ n ih =>
    intro x1 x2 h hg
    rw [g_X12_bears_33] at hg
    obtain ⟨v_8, qv_8, hg⟩ := zbind_some hg
    refine z_aload_n (pc := 33) hK 0 dX12_bears_33 rfl (z_callVi (pc := 34) hK [] (m_X12_governor (zC_D hK) ht0 qv_8) sv_X12_governor q_1652 ht0 rfl [] rfl (Nat.le_of_ble_eq_true rfl) ⟨by decide, by decide⟩ dX12_bears_34 (z_iload_n (pc := 37) hK 1 dX12_bears_37 rfl (z_icmp_ne (pc := 38) hK 57 dX12_bears_38 (by decide) (fun c_9 => ?_) (fun c_9 => ?_))))
    · rw [if_neg c_9] at hg
      obtain ⟨c_10, hg⟩ := zgu_some hg
      obtain ⟨h_11, eh_11, hg⟩ := zlet_some hg
      exact z_aload_n (pc := 57) hK 0 dX12_bears_57 rfl (z_getR (pc := 58) hK f_X12_120_11 ht0 dX12_bears_58 (z_iload_n (pc := 61) hK 1 dX12_bears_61 rfl (z_iconst (pc := 62) hK dX12_bears_62 zc_i0 (z_iast (pc := 63) hK (zt_11_50 ht0) c_10 dX12_bears_63 (z_nameH eh_11 (z_iload_n (pc := 64) hK 2 dX12_bears_64 rfl (z_iretE (pc := 65) hK hE hg dX12_bears_65)))))))
    · rw [if_pos c_9] at hg
      obtain ⟨c_12, hg⟩ := zgu_some hg
      obtain ⟨c_13, hg⟩ := zgu_some hg
      obtain ⟨h_14, eh_14, hg⟩ := zlet_some hg
      exact z_aload_n (pc := 41) hK 0 dX12_bears_41 rfl (z_getR (pc := 42) hK f_X12_120_11 ht0 dX12_bears_42 (z_iload_n (pc := 45) hK 1 dX12_bears_45 rfl (z_dup2 (pc := 46) hK dX12_bears_46 rfl rfl (z_iald (pc := 47) hK (zt_11_50 ht0) c_12 dX12_bears_47 (z_iconst (pc := 48) hK dX12_bears_48 zc_i1 (z_iadd (pc := 49) hK dX12_bears_49 (z_iast (pc := 50) hK (zt_11_50 ht0) c_13 dX12_bears_50 (z_nameH eh_14 (z_iinc (pc := 51) hK 2 (lv' := [(2, .int (x2 + 1)), (0, .ref (G.2.2.2 t0)), (1, .int x1)]) dX12_bears_51 rfl (zc_n1 _) (by decide) rfl (z_goto (pc := 54) hK 33 dX12_bears_54 (by decide) (zsub (lv' := [(0, .ref (G.2.2.2 t0)), (1, .int x1), (2, .int (x2 + 1))]) [1, 2, 0] rfl (ih x1 (x2 + 1) h_14 hg))))))))))))
set_option maxRecDepth 100000 in
set_option maxHeartbeats 4000000 in
theorem b_X12_bears {K : zK} {G : zG} (hK : zC K G cX12_bears RX12 3 4 90 (some .int)) {h : zH} {t0 : Nat} {x1 : Int32} (ht0 : zT t0 = (11, 0)) {r : Int32 × zH} (hE : zE K G (some (.int r.1)) r.2) (hg : g_X12_bears h t0 x1 = some r) : zW K G 3 0 [(0, .ref (G.2.2.2 t0)), (1, .int x1)] [] h := by
  rw [g_X12_bears] at hg
  obtain ⟨h_1, eh_1, hg⟩ := zlet_some hg
  obtain ⟨v_2, qv_2, hg⟩ := zbind_some hg
  refine z_aload_n (pc := 0) hK 0 dX12_bears_0 rfl (z_iconst (pc := 1) hK dX12_bears_1 zc_i0 (z_putI (pc := 2) hK f_X12_126_11 fp_11_0 ht0 dX12_bears_2 (z_nameH eh_1 (z_aload_n (pc := 5) hK 0 dX12_bears_5 rfl (z_iload_n (pc := 6) hK 1 dX12_bears_6 rfl (z_callVi (pc := 7) hK [.int x1] (m_X12_isPerson (zC_D hK) ht0 qv_2) sv_X12_isPerson q_1620 ht0 rfl [] rfl (Nat.le_of_ble_eq_true rfl) ⟨by decide, by decide⟩ dX12_bears_7 (z_if_eq (pc := 10) hK 29 dX12_bears_10 (by decide) (fun c_3 => ?_) (fun c_3 => ?_))))))))
  · rw [if_pos c_3] at hg
    exact z_iconst (pc := 29) hK dX12_bears_29 zc_im1 (z_iretE (pc := 30) hK hE hg dX12_bears_30)
  · rw [if_neg c_3] at hg
    obtain ⟨v_4, qv_4, hg⟩ := zbind_some hg
    refine z_aload_n (pc := 13) hK 0 dX12_bears_13 rfl (z_callVi (pc := 14) hK [] (m_X12_governor (zC_D hK) ht0 qv_4) sv_X12_governor q_1652 ht0 rfl [] rfl (Nat.le_of_ble_eq_true rfl) ⟨by decide, by decide⟩ dX12_bears_14 (z_iload_n (pc := 17) hK 1 dX12_bears_17 rfl (z_icmp_ne (pc := 18) hK 29 dX12_bears_18 (by decide) (fun c_5 => ?_) (fun c_5 => ?_))))
    · rw [if_neg c_5] at hg
      exact z_iconst (pc := 29) hK dX12_bears_29 zc_im1 (z_iretE (pc := 30) hK hE hg dX12_bears_30)
    · rw [if_pos c_5] at hg
      obtain ⟨v_6, qv_6, hg⟩ := zbind_some hg
      refine z_aload_n (pc := 21) hK 0 dX12_bears_21 rfl (z_iload_n (pc := 22) hK 1 dX12_bears_22 rfl (z_callVi (pc := 23) hK [.int x1] (m_X12_isOther (zC_D hK) ht0 qv_6) sv_X12_isOther q_1788 ht0 rfl [] rfl (Nat.le_of_ble_eq_true rfl) ⟨by decide, by decide⟩ dX12_bears_23 (z_if_ne (pc := 26) hK 31 dX12_bears_26 (by decide) (fun c_7 => ?_) (fun c_7 => ?_))))
      · rw [if_neg c_7] at hg
        exact z_iconst (pc := 31) hK dX12_bears_31 zc_im1 (z_istore_n (pc := 32) hK (lv' := [(2, .int (-1)), (0, .ref (G.2.2.2 t0)), (1, .int x1)]) dX12_bears_32 (by decide) rfl (zsub (lv' := [(0, .ref (G.2.2.2 t0)), (1, .int x1), (2, .int (-1))]) [1, 2, 0] rfl (b_X12_bears_33 hK ht0 hE zfu x1 (-1) h_1 hg)))
      · rw [if_pos c_7] at hg
        exact z_iconst (pc := 29) hK dX12_bears_29 zc_im1 (z_iretE (pc := 30) hK hE hg dX12_bears_30)
theorem m_X12_bears {l : Launch} {G : zG} (hG : zD G) {h : zH} {t0 : Nat} {x1 : Int32} (ht0 : zT t0 = (11, 0)) {r : Int32 × zH} (hg : g_X12_bears h t0 x1 = some r) : zM l G yX12_bears cX12_bears 3 (some .int) 4 90 [.ref (G.2.2.2 t0), .int x1] h (some (.int r.1)) r.2 :=
  zM_of hG pn_X12 (Nat.le_of_ble_eq_true rfl) (fun K _ hK hE => b_X12_bears hK ht0 hE hg)
theorem dX12_falls_0 : decode cX12_falls 0 = .ok (.aload_n 0, 1) := by decide +kernel
theorem dX12_falls_1 : decode cX12_falls 1 = .ok (.iconst 0, 1) := by decide +kernel
theorem dX12_falls_2 : decode cX12_falls 2 = .ok (.putfield 126, 3) := by decide +kernel
theorem dX12_falls_5 : decode cX12_falls 5 = .ok (.aload_n 0, 1) := by decide +kernel
theorem dX12_falls_6 : decode cX12_falls 6 = .ok (.invokevirtual 379, 3) := by decide +kernel
theorem dX12_falls_9 : decode cX12_falls 9 = .ok (.istore_n 1, 1) := by decide +kernel
theorem dX12_falls_10 : decode cX12_falls 10 = .ok (.iload_n 1, 1) := by decide +kernel
theorem dX12_falls_11 : decode cX12_falls 11 = .ok (.ifCond .ge 5, 3) := by decide +kernel
theorem dX12_falls_14 : decode cX12_falls 14 = .ok (.iconst (-1), 1) := by decide +kernel
theorem dX12_falls_15 : decode cX12_falls 15 = .ok (.ireturn, 1) := by decide +kernel
theorem dX12_falls_16 : decode cX12_falls 16 = .ok (.aload_n 0, 1) := by decide +kernel
theorem dX12_falls_17 : decode cX12_falls 17 = .ok (.getfield 105, 3) := by decide +kernel
theorem dX12_falls_20 : decode cX12_falls 20 = .ok (.iconst 0, 1) := by decide +kernel
theorem dX12_falls_21 : decode cX12_falls 21 = .ok (.aload_n 0, 1) := by decide +kernel
theorem dX12_falls_22 : decode cX12_falls 22 = .ok (.getfield 108, 3) := by decide +kernel
theorem dX12_falls_25 : decode cX12_falls 25 = .ok (.iconst 0, 1) := by decide +kernel
theorem dX12_falls_26 : decode cX12_falls 26 = .ok (.invokestatic 409, 3) := by decide +kernel
theorem dX12_falls_29 : decode cX12_falls 29 = .ok (.iconst 0, 1) := by decide +kernel
theorem dX12_falls_30 : decode cX12_falls 30 = .ok (.istore_n 2, 1) := by decide +kernel
theorem dX12_falls_31 : decode cX12_falls 31 = .ok (.iload_n 2, 1) := by decide +kernel
theorem dX12_falls_32 : decode cX12_falls 32 = .ok (.bipush 41, 2) := by decide +kernel
theorem dX12_falls_34 : decode cX12_falls 34 = .ok (.if_icmp .ge 32, 3) := by decide +kernel
theorem dX12_falls_37 : decode cX12_falls 37 = .ok (.aload_n 0, 1) := by decide +kernel
theorem dX12_falls_38 : decode cX12_falls 38 = .ok (.invokevirtual 379, 3) := by decide +kernel
theorem dX12_falls_41 : decode cX12_falls 41 = .ok (.iload_n 1, 1) := by decide +kernel
theorem dX12_falls_42 : decode cX12_falls 42 = .ok (.if_icmp .ne 24, 3) := by decide +kernel
theorem dX12_falls_45 : decode cX12_falls 45 = .ok (.aload_n 0, 1) := by decide +kernel
theorem dX12_falls_46 : decode cX12_falls 46 = .ok (.invokevirtual 437, 3) := by decide +kernel
theorem dX12_falls_49 : decode cX12_falls 49 = .ok (.aload_n 0, 1) := by decide +kernel
theorem dX12_falls_50 : decode cX12_falls 50 = .ok (.aload_n 0, 1) := by decide +kernel
theorem dX12_falls_51 : decode cX12_falls 51 = .ok (.getfield 13, 3) := by decide +kernel
theorem dX12_falls_54 : decode cX12_falls 54 = .ok (.iconst 1, 1) := by decide +kernel
theorem dX12_falls_55 : decode cX12_falls 55 = .ok (.iaload, 1) := by decide +kernel
theorem dX12_falls_56 : decode cX12_falls 56 = .ok (.invokevirtual 425, 3) := by decide +kernel
theorem dX12_falls_59 : decode cX12_falls 59 = .ok (.pop, 1) := by decide +kernel
theorem dX12_falls_60 : decode cX12_falls 60 = .ok (.iinc 2 1, 3) := by decide +kernel
theorem dX12_falls_63 : decode cX12_falls 63 = .ok (.goto (-32), 3) := by decide +kernel
theorem dX12_falls_66 : decode cX12_falls 66 = .ok (.aload_n 0, 1) := by decide +kernel
theorem dX12_falls_67 : decode cX12_falls 67 = .ok (.getfield 108, 3) := by decide +kernel
theorem dX12_falls_70 : decode cX12_falls 70 = .ok (.iconst 0, 1) := by decide +kernel
theorem dX12_falls_71 : decode cX12_falls 71 = .ok (.aload_n 0, 1) := by decide +kernel
theorem dX12_falls_72 : decode cX12_falls 72 = .ok (.getfield 105, 3) := by decide +kernel
theorem dX12_falls_75 : decode cX12_falls 75 = .ok (.iconst 0, 1) := by decide +kernel
theorem dX12_falls_76 : decode cX12_falls 76 = .ok (.invokestatic 409, 3) := by decide +kernel
theorem dX12_falls_79 : decode cX12_falls 79 = .ok (.iload_n 2, 1) := by decide +kernel
theorem dX12_falls_80 : decode cX12_falls 80 = .ok (.bipush 41, 2) := by decide +kernel
theorem dX12_falls_82 : decode cX12_falls 82 = .ok (.if_icmp .ne 7, 3) := by decide +kernel
theorem dX12_falls_85 : decode cX12_falls 85 = .ok (.iconst (-1), 1) := by decide +kernel
theorem dX12_falls_86 : decode cX12_falls 86 = .ok (.goto 4, 3) := by decide +kernel
theorem dX12_falls_89 : decode cX12_falls 89 = .ok (.iload_n 2, 1) := by decide +kernel
theorem dX12_falls_90 : decode cX12_falls 90 = .ok (.ireturn, 1) := by decide +kernel
def g_X12_falls_66 (t0 : Nat)  (x2 : Int32) (h : zH) : Option (Int32 × zH) := (g_X12_copies h (zR t0 45) 107 0 (zR t0 44) 107 0).bind fun v_11 => if x2 = 41 then (some ((-1), v_11)) else (some (x2, v_11))
def g_X12_falls_31 (t0 : Nat)  : Nat → Int32 → Int32 → zH → Option (Int32 × zH)
  | 0, _, _, _ => none
  | n + 1, x1, x2, h => if 41 ≤ x2 then (g_X12_falls_66 t0 x2 h) else ((g_X12_governor h t0).bind fun v_6 => if v_6 = x1 then ((g_X12_taxesIfCan h t0).bind fun v_8 => zgu (zin 1 8) <| (g_X12_passes v_8 t0 (v_8.1 (zR t0 10) (zx 1))).bind fun v_10 => g_X12_falls_31 t0 n x1 (x2 + 1) v_10.2) else (g_X12_falls_66 t0 x2 h))
def g_X12_falls (h : zH) (t0 : Nat) : Option (Int32 × zH) := zlet (zpi h t0 0 0) fun h_1 => (g_X12_governor h_1 t0).bind fun v_2 => if 0 ≤ v_2 then ((g_X12_copies h_1 (zR t0 44) 107 0 (zR t0 45) 107 0).bind fun v_4 => g_X12_falls_31 t0 zfu v_2 0 v_4) else (some ((-1), h_1))
set_option maxRecDepth 100000 in
set_option maxHeartbeats 4000000 in
theorem b_X12_falls_66 {K : zK} {G : zG} (hK : zC K G cX12_falls RX12 3 6 137 (some .int)) {t0 : Nat} (ht0 : zT t0 = (11, 0)) {r : Int32 × zH} (hE : zE K G (some (.int r.1)) r.2) (x2 : Int32) (h : zH) (hg : g_X12_falls_66 t0 x2 h = some r) : zW K G 3 66 [(0, .ref (G.2.2.2 t0)), (2, .int x2)] [] h := by
  rw [g_X12_falls_66] at hg
  obtain ⟨v_11, qv_11, hg⟩ := zbind_some hg
  refine z_aload_n (pc := 66) hK 0 dX12_falls_66 rfl (z_getR (pc := 67) hK f_X12_108_11 ht0 dX12_falls_67 (z_iconst (pc := 70) hK dX12_falls_70 zc_i0 (z_aload_n (pc := 71) hK 0 dX12_falls_71 rfl (z_getR (pc := 72) hK f_X12_105_11 ht0 dX12_falls_72 (z_iconst (pc := 75) hK dX12_falls_75 zc_i0 (z_callSv (pc := 76) hK [.ref (G.2.2.2 (zR t0 45)), .int 0, .ref (G.2.2.2 (zR t0 44)), .int 0] (m_X12_copies (zC_D hK) (zt_11_45 ht0) (zt_11_44 ht0) qv_11) ss_X12_copies q_1676 rfl [] rfl (Nat.le_of_ble_eq_true rfl) ⟨by decide, by decide⟩ dX12_falls_76 (z_iload_n (pc := 79) hK 1 dX12_falls_79 rfl (z_bipush (pc := 80) hK dX12_falls_80 zc_b41 (z_icmp_ne (pc := 82) hK 89 dX12_falls_82 (by decide) (fun c_12 => ?_) (fun c_12 => ?_))))))))))
  · rw [if_neg c_12] at hg
    exact z_iload_n (pc := 89) hK 1 dX12_falls_89 rfl (z_iretE (pc := 90) hK hE hg dX12_falls_90)
  · rw [if_pos c_12] at hg
    exact z_iconst (pc := 85) hK dX12_falls_85 zc_im1 (z_goto (pc := 86) hK 90 dX12_falls_86 (by decide) (z_iretE (pc := 90) hK hE hg dX12_falls_90))
set_option maxRecDepth 100000 in
set_option maxHeartbeats 4000000 in
theorem b_X12_falls_31 {K : zK} {G : zG} (hK : zC K G cX12_falls RX12 3 6 137 (some .int)) {t0 : Nat} (ht0 : zT t0 = (11, 0)) {r : Int32 × zH} (hE : zE K G (some (.int r.1)) r.2) : ∀ (n : Nat) (x1 : Int32) (x2 : Int32) (h : zH), g_X12_falls_31 t0 n x1 x2 h = some r → zW K G 3 31 [(0, .ref (G.2.2.2 t0)), (1, .int x1), (2, .int x2)] [] h := by
  intro n
  induction n with
  | zero => intro x1 x2 h hg; exact nomatch (show none = some r from hg)
  | succ n ih =>
    intro x1 x2 h hg
    rw [g_X12_falls_31] at hg
    refine z_iload_n (pc := 31) hK 2 dX12_falls_31 rfl (z_bipush (pc := 32) hK dX12_falls_32 zc_b41 (z_icmp_ge (pc := 34) hK 66 dX12_falls_34 (by decide) (fun c_5 => ?_) (fun c_5 => ?_)))
    · rw [if_pos c_5] at hg
      exact zsub (lv' := [(0, .ref (G.2.2.2 t0)), (2, .int x2)]) [0, 2] rfl (b_X12_falls_66 hK ht0 hE x2 h hg)
    · rw [if_neg c_5] at hg
      obtain ⟨v_6, qv_6, hg⟩ := zbind_some hg
      refine z_aload_n (pc := 37) hK 0 dX12_falls_37 rfl (z_callVi (pc := 38) hK [] (m_X12_governor (zC_D hK) ht0 qv_6) sv_X12_governor q_1652 ht0 rfl [] rfl (Nat.le_of_ble_eq_true rfl) ⟨by decide, by decide⟩ dX12_falls_38 (z_iload_n (pc := 41) hK 1 dX12_falls_41 rfl (z_icmp_ne (pc := 42) hK 66 dX12_falls_42 (by decide) (fun c_7 => ?_) (fun c_7 => ?_))))
      · rw [if_neg c_7] at hg
        exact zsub (lv' := [(0, .ref (G.2.2.2 t0)), (2, .int x2)]) [0, 2] rfl (b_X12_falls_66 hK ht0 hE x2 h hg)
      · rw [if_pos c_7] at hg
        obtain ⟨v_8, qv_8, hg⟩ := zbind_some hg
        obtain ⟨c_9, hg⟩ := zgu_some hg
        obtain ⟨v_10, qv_10, hg⟩ := zbind_some hg
        exact z_aload_n (pc := 45) hK 0 dX12_falls_45 rfl (z_callVv (pc := 46) hK [] (m_X12_taxesIfCan (zC_D hK) ht0 qv_8) sv_X12_taxesIfCan q_1796 ht0 rfl [] rfl (Nat.le_of_ble_eq_true rfl) ⟨by decide, by decide⟩ dX12_falls_46 (z_aload_n (pc := 49) hK 0 dX12_falls_49 rfl (z_aload_n (pc := 50) hK 0 dX12_falls_50 rfl (z_getR (pc := 51) hK f_X12_13_11 ht0 dX12_falls_51 (z_iconst (pc := 54) hK dX12_falls_54 zc_i1 (z_iald (pc := 55) hK (zt_11_10 ht0) c_9 dX12_falls_55 (z_callVi (pc := 56) hK [.int (v_8.1 (zR t0 10) (zx 1))] (m_X12_passes (zC_D hK) ht0 qv_10) sv_X12_passes q_1740 ht0 rfl [] rfl (Nat.le_of_ble_eq_true rfl) ⟨by decide, by decide⟩ dX12_falls_56 (z_pop (pc := 59) hK dX12_falls_59 rfl (z_iinc (pc := 60) hK 2 (lv' := [(2, .int (x2 + 1)), (0, .ref (G.2.2.2 t0)), (1, .int x1)]) dX12_falls_60 rfl (zc_n1 _) (by decide) rfl (z_goto (pc := 63) hK 31 dX12_falls_63 (by decide) (zsub (lv' := [(0, .ref (G.2.2.2 t0)), (1, .int x1), (2, .int (x2 + 1))]) [1, 2, 0] rfl (ih x1 (x2 + 1) v_10.2 hg))))))))))))
set_option maxRecDepth 100000 in
set_option maxHeartbeats 4000000 in
theorem b_X12_falls {K : zK} {G : zG} (hK : zC K G cX12_falls RX12 3 6 137 (some .int)) {h : zH} {t0 : Nat} (ht0 : zT t0 = (11, 0)) {r : Int32 × zH} (hE : zE K G (some (.int r.1)) r.2) (hg : g_X12_falls h t0 = some r) : zW K G 3 0 [(0, .ref (G.2.2.2 t0))] [] h := by
  rw [g_X12_falls] at hg
  obtain ⟨h_1, eh_1, hg⟩ := zlet_some hg
  obtain ⟨v_2, qv_2, hg⟩ := zbind_some hg
  refine z_aload_n (pc := 0) hK 0 dX12_falls_0 rfl (z_iconst (pc := 1) hK dX12_falls_1 zc_i0 (z_putI (pc := 2) hK f_X12_126_11 fp_11_0 ht0 dX12_falls_2 (z_nameH eh_1 (z_aload_n (pc := 5) hK 0 dX12_falls_5 rfl (z_callVi (pc := 6) hK [] (m_X12_governor (zC_D hK) ht0 qv_2) sv_X12_governor q_1652 ht0 rfl [] rfl (Nat.le_of_ble_eq_true rfl) ⟨by decide, by decide⟩ dX12_falls_6 (z_istore_n (pc := 9) hK (lv' := [(1, .int v_2), (0, .ref (G.2.2.2 t0))]) dX12_falls_9 (by decide) rfl (z_iload_n (pc := 10) hK 0 dX12_falls_10 rfl (z_if_ge (pc := 11) hK 16 dX12_falls_11 (by decide) (fun c_3 => ?_) (fun c_3 => ?_)))))))))
  · rw [if_pos c_3] at hg
    obtain ⟨v_4, qv_4, hg⟩ := zbind_some hg
    exact z_aload_n (pc := 16) hK 1 dX12_falls_16 rfl (z_getR (pc := 17) hK f_X12_105_11 ht0 dX12_falls_17 (z_iconst (pc := 20) hK dX12_falls_20 zc_i0 (z_aload_n (pc := 21) hK 1 dX12_falls_21 rfl (z_getR (pc := 22) hK f_X12_108_11 ht0 dX12_falls_22 (z_iconst (pc := 25) hK dX12_falls_25 zc_i0 (z_callSv (pc := 26) hK [.ref (G.2.2.2 (zR t0 44)), .int 0, .ref (G.2.2.2 (zR t0 45)), .int 0] (m_X12_copies (zC_D hK) (zt_11_44 ht0) (zt_11_45 ht0) qv_4) ss_X12_copies q_1676 rfl [] rfl (Nat.le_of_ble_eq_true rfl) ⟨by decide, by decide⟩ dX12_falls_26 (z_iconst (pc := 29) hK dX12_falls_29 zc_i0 (z_istore_n (pc := 30) hK (lv' := [(2, .int 0), (1, .int v_2), (0, .ref (G.2.2.2 t0))]) dX12_falls_30 (by decide) rfl (zsub (lv' := [(0, .ref (G.2.2.2 t0)), (1, .int v_2), (2, .int 0)]) [2, 1, 0] rfl (b_X12_falls_31 hK ht0 hE zfu v_2 0 v_4 hg))))))))))
  · rw [if_neg c_3] at hg
    exact z_iconst (pc := 14) hK dX12_falls_14 zc_im1 (z_iretE (pc := 15) hK hE hg dX12_falls_15)
theorem m_X12_falls {l : Launch} {G : zG} (hG : zD G) {h : zH} {t0 : Nat} (ht0 : zT t0 = (11, 0)) {r : Int32 × zH} (hg : g_X12_falls h t0 = some r) : zM l G yX12_falls cX12_falls 3 (some .int) 6 137 [.ref (G.2.2.2 t0)] h (some (.int r.1)) r.2 :=
  zM_of hG pn_X12 (Nat.le_of_ble_eq_true rfl) (fun K _ hK hE => b_X12_falls hK ht0 hE hg)
theorem dX12_quietsOf_0 : decode cX12_quietsOf 0 = .ok (.iconst 0, 1) := by decide +kernel
theorem dX12_quietsOf_1 : decode cX12_quietsOf 1 = .ok (.istore_n 3, 1) := by decide +kernel
theorem dX12_quietsOf_2 : decode cX12_quietsOf 2 = .ok (.aload_n 0, 1) := by decide +kernel
theorem dX12_quietsOf_3 : decode cX12_quietsOf 3 = .ok (.getfield 105, 3) := by decide +kernel
theorem dX12_quietsOf_6 : decode cX12_quietsOf 6 = .ok (.bipush 9, 2) := by decide +kernel
theorem dX12_quietsOf_8 : decode cX12_quietsOf 8 = .ok (.bipush 7, 2) := by decide +kernel
theorem dX12_quietsOf_10 : decode cX12_quietsOf 10 = .ok (.iload_n 1, 1) := by decide +kernel
theorem dX12_quietsOf_11 : decode cX12_quietsOf 11 = .ok (.imul, 1) := by decide +kernel
theorem dX12_quietsOf_12 : decode cX12_quietsOf 12 = .ok (.iadd, 1) := by decide +kernel
theorem dX12_quietsOf_13 : decode cX12_quietsOf 13 = .ok (.iload_n 2, 1) := by decide +kernel
theorem dX12_quietsOf_14 : decode cX12_quietsOf 14 = .ok (.iadd, 1) := by decide +kernel
theorem dX12_quietsOf_15 : decode cX12_quietsOf 15 = .ok (.iaload, 1) := by decide +kernel
theorem dX12_quietsOf_16 : decode cX12_quietsOf 16 = .ok (.aload_n 0, 1) := by decide +kernel
theorem dX12_quietsOf_17 : decode cX12_quietsOf 17 = .ok (.iload_n 1, 1) := by decide +kernel
theorem dX12_quietsOf_18 : decode cX12_quietsOf 18 = .ok (.aload_n 0, 1) := by decide +kernel
theorem dX12_quietsOf_19 : decode cX12_quietsOf 19 = .ok (.getfield 13, 3) := by decide +kernel
theorem dX12_quietsOf_22 : decode cX12_quietsOf 22 = .ok (.iconst 1, 1) := by decide +kernel
theorem dX12_quietsOf_23 : decode cX12_quietsOf 23 = .ok (.iaload, 1) := by decide +kernel
theorem dX12_quietsOf_24 : decode cX12_quietsOf 24 = .ok (.invokevirtual 397, 3) := by decide +kernel
theorem dX12_quietsOf_27 : decode cX12_quietsOf 27 = .ok (.if_icmp .lt 20, 3) := by decide +kernel
theorem dX12_quietsOf_30 : decode cX12_quietsOf 30 = .ok (.aload_n 0, 1) := by decide +kernel
theorem dX12_quietsOf_31 : decode cX12_quietsOf 31 = .ok (.iload_n 2, 1) := by decide +kernel
theorem dX12_quietsOf_32 : decode cX12_quietsOf 32 = .ok (.iload_n 1, 1) := by decide +kernel
theorem dX12_quietsOf_33 : decode cX12_quietsOf 33 = .ok (.invokevirtual 419, 3) := by decide +kernel
theorem dX12_quietsOf_36 : decode cX12_quietsOf 36 = .ok (.ifCond .ne 5, 3) := by decide +kernel
theorem dX12_quietsOf_39 : decode cX12_quietsOf 39 = .ok (.iconst (-1), 1) := by decide +kernel
theorem dX12_quietsOf_40 : decode cX12_quietsOf 40 = .ok (.ireturn, 1) := by decide +kernel
theorem dX12_quietsOf_41 : decode cX12_quietsOf 41 = .ok (.iinc 3 1, 3) := by decide +kernel
theorem dX12_quietsOf_44 : decode cX12_quietsOf 44 = .ok (.goto (-42), 3) := by decide +kernel
theorem dX12_quietsOf_47 : decode cX12_quietsOf 47 = .ok (.iload_n 3, 1) := by decide +kernel
theorem dX12_quietsOf_48 : decode cX12_quietsOf 48 = .ok (.ireturn, 1) := by decide +kernel
def g_X12_quietsOf_2 (t0 : Nat)  : Nat → Int32 → Int32 → Int32 → zH → Option (Int32 × zH)
  | 0, _, _, _, _ => none
  | n + 1, x1, x2, x3, h => zgu (zin ((9 + (7 * x1)) + x2) 107) <| zgu (zin 1 8) <| (g_X12_barOf h t0 x1 (h.1 (zR t0 10) (zx 1))).bind fun v_3 => if (h.1 (zR t0 44) (zx ((9 + (7 * x1)) + x2))) < v_3 then (some (x3, h)) else ((g_X12_gives h t0 x2 x1).bind fun v_5 => if v_5.1 = 0 then (some ((-1), v_5.2)) else (g_X12_quietsOf_2 t0 n x1 x2 (x3 + 1) v_5.2))
def g_X12_quietsOf (h : zH) (t0 : Nat) (x1 : Int32) (x2 : Int32) : Option (Int32 × zH) := g_X12_quietsOf_2 t0 zfu x1 x2 0 h
set_option maxRecDepth 100000 in
set_option maxHeartbeats 4000000 in
theorem b_X12_quietsOf_2 {K : zK} {G : zG} (hK : zC K G cX12_quietsOf RX12 4 5 115 (some .int)) {t0 : Nat} (ht0 : zT t0 = (11, 0)) {r : Int32 × zH} (hE : zE K G (some (.int r.1)) r.2) : ∀ (n : Nat) (x1 : Int32) (x2 : Int32) (x3 : Int32) (h : zH), g_X12_quietsOf_2 t0 n x1 x2 x3 h = some r → zW K G 4 2 [(0, .ref (G.2.2.2 t0)), (1, .int x1), (2, .int x2), (3, .int x3)] [] h := by
  intro n
  induction n with
  | zero => intro x1 x2 x3 h hg; exact nomatch (show none = some r from hg)
  | succ n ih =>
    intro x1 x2 x3 h hg
    rw [g_X12_quietsOf_2] at hg
    obtain ⟨c_1, hg⟩ := zgu_some hg
    obtain ⟨c_2, hg⟩ := zgu_some hg
    obtain ⟨v_3, qv_3, hg⟩ := zbind_some hg
    refine z_aload_n (pc := 2) hK 0 dX12_quietsOf_2 rfl (z_getR (pc := 3) hK f_X12_105_11 ht0 dX12_quietsOf_3 (z_bipush (pc := 6) hK dX12_quietsOf_6 zc_b9 (z_bipush (pc := 8) hK dX12_quietsOf_8 zc_b7 (z_iload_n (pc := 10) hK 1 dX12_quietsOf_10 rfl (z_imul (pc := 11) hK dX12_quietsOf_11 (z_iadd (pc := 12) hK dX12_quietsOf_12 (z_iload_n (pc := 13) hK 2 dX12_quietsOf_13 rfl (z_iadd (pc := 14) hK dX12_quietsOf_14 (z_iald (pc := 15) hK (zt_11_44 ht0) c_1 dX12_quietsOf_15 (z_aload_n (pc := 16) hK 0 dX12_quietsOf_16 rfl (z_iload_n (pc := 17) hK 1 dX12_quietsOf_17 rfl (z_aload_n (pc := 18) hK 0 dX12_quietsOf_18 rfl (z_getR (pc := 19) hK f_X12_13_11 ht0 dX12_quietsOf_19 (z_iconst (pc := 22) hK dX12_quietsOf_22 zc_i1 (z_iald (pc := 23) hK (zt_11_10 ht0) c_2 dX12_quietsOf_23 (z_callVi (pc := 24) hK [.int x1, .int (h.1 (zR t0 10) (zx 1))] (m_X12_barOf (zC_D hK) ht0 qv_3) sv_X12_barOf q_1756 ht0 rfl [.int (h.1 (zR t0 44) (zx ((9 + (7 * x1)) + x2)))] rfl (Nat.le_of_ble_eq_true rfl) ⟨by decide, by decide⟩ dX12_quietsOf_24 (z_icmp_lt (pc := 27) hK 47 dX12_quietsOf_27 (by decide) (fun c_4 => ?_) (fun c_4 => ?_))))))))))))))))))
    · rw [if_pos c_4] at hg
      exact z_iload_n (pc := 47) hK 3 dX12_quietsOf_47 rfl (z_iretE (pc := 48) hK hE hg dX12_quietsOf_48)
    · rw [if_neg c_4] at hg
      obtain ⟨v_5, qv_5, hg⟩ := zbind_some hg
      refine z_aload_n (pc := 30) hK 0 dX12_quietsOf_30 rfl (z_iload_n (pc := 31) hK 2 dX12_quietsOf_31 rfl (z_iload_n (pc := 32) hK 1 dX12_quietsOf_32 rfl (z_callVi (pc := 33) hK [.int x2, .int x1] (m_X12_gives (zC_D hK) ht0 qv_5) sv_X12_gives q_1715 ht0 rfl [] rfl (Nat.le_of_ble_eq_true rfl) ⟨by decide, by decide⟩ dX12_quietsOf_33 (z_if_ne (pc := 36) hK 41 dX12_quietsOf_36 (by decide) (fun c_6 => ?_) (fun c_6 => ?_)))))
      · rw [if_neg c_6] at hg
        exact z_iinc (pc := 41) hK 3 (lv' := [(3, .int (x3 + 1)), (0, .ref (G.2.2.2 t0)), (1, .int x1), (2, .int x2)]) dX12_quietsOf_41 rfl (zc_n1 _) (by decide) rfl (z_goto (pc := 44) hK 2 dX12_quietsOf_44 (by decide) (zsub (lv' := [(0, .ref (G.2.2.2 t0)), (1, .int x1), (2, .int x2), (3, .int (x3 + 1))]) [1, 2, 3, 0] rfl (ih x1 x2 (x3 + 1) v_5.2 hg)))
      · rw [if_pos c_6] at hg
        exact z_iconst (pc := 39) hK dX12_quietsOf_39 zc_im1 (z_iretE (pc := 40) hK hE hg dX12_quietsOf_40)
set_option maxRecDepth 100000 in
set_option maxHeartbeats 4000000 in
theorem b_X12_quietsOf {K : zK} {G : zG} (hK : zC K G cX12_quietsOf RX12 4 5 115 (some .int)) {h : zH} {t0 : Nat} {x1 : Int32} {x2 : Int32} (ht0 : zT t0 = (11, 0)) {r : Int32 × zH} (hE : zE K G (some (.int r.1)) r.2) (hg : g_X12_quietsOf h t0 x1 x2 = some r) : zW K G 4 0 [(0, .ref (G.2.2.2 t0)), (1, .int x1), (2, .int x2)] [] h := by
  rw [g_X12_quietsOf] at hg
  exact z_iconst (pc := 0) hK dX12_quietsOf_0 zc_i0 (z_istore_n (pc := 1) hK (lv' := [(3, .int 0), (0, .ref (G.2.2.2 t0)), (1, .int x1), (2, .int x2)]) dX12_quietsOf_1 (by decide) rfl (zsub (lv' := [(0, .ref (G.2.2.2 t0)), (1, .int x1), (2, .int x2), (3, .int 0)]) [1, 2, 3, 0] rfl (b_X12_quietsOf_2 hK ht0 hE zfu x1 x2 0 h hg)))
theorem m_X12_quietsOf {l : Launch} {G : zG} (hG : zD G) {h : zH} {t0 : Nat} {x1 : Int32} {x2 : Int32} (ht0 : zT t0 = (11, 0)) {r : Int32 × zH} (hg : g_X12_quietsOf h t0 x1 x2 = some r) : zM l G yX12_quietsOf cX12_quietsOf 4 (some .int) 5 115 [.ref (G.2.2.2 t0), .int x1, .int x2] h (some (.int r.1)) r.2 :=
  zM_of hG pn_X12 (Nat.le_of_ble_eq_true rfl) (fun K _ hK hE => b_X12_quietsOf hK ht0 hE hg)
theorem dX12_quiets_0 : decode cX12_quiets 0 = .ok (.aload_n 0, 1) := by decide +kernel
theorem dX12_quiets_1 : decode cX12_quiets 1 = .ok (.iconst 0, 1) := by decide +kernel
theorem dX12_quiets_2 : decode cX12_quiets 2 = .ok (.putfield 126, 3) := by decide +kernel
theorem dX12_quiets_5 : decode cX12_quiets 5 = .ok (.aload_n 0, 1) := by decide +kernel
theorem dX12_quiets_6 : decode cX12_quiets 6 = .ok (.getfield 105, 3) := by decide +kernel
theorem dX12_quiets_9 : decode cX12_quiets 9 = .ok (.iconst 0, 1) := by decide +kernel
theorem dX12_quiets_10 : decode cX12_quiets 10 = .ok (.aload_n 0, 1) := by decide +kernel
theorem dX12_quiets_11 : decode cX12_quiets 11 = .ok (.getfield 108, 3) := by decide +kernel
theorem dX12_quiets_14 : decode cX12_quiets 14 = .ok (.iconst 0, 1) := by decide +kernel
theorem dX12_quiets_15 : decode cX12_quiets 15 = .ok (.invokestatic 409, 3) := by decide +kernel
theorem dX12_quiets_18 : decode cX12_quiets 18 = .ok (.iconst 0, 1) := by decide +kernel
theorem dX12_quiets_19 : decode cX12_quiets 19 = .ok (.istore_n 1, 1) := by decide +kernel
theorem dX12_quiets_20 : decode cX12_quiets 20 = .ok (.iconst 0, 1) := by decide +kernel
theorem dX12_quiets_21 : decode cX12_quiets 21 = .ok (.istore_n 2, 1) := by decide +kernel
theorem dX12_quiets_22 : decode cX12_quiets 22 = .ok (.iload_n 2, 1) := by decide +kernel
theorem dX12_quiets_23 : decode cX12_quiets 23 = .ok (.aload_n 0, 1) := by decide +kernel
theorem dX12_quiets_24 : decode cX12_quiets 24 = .ok (.getfield 13, 3) := by decide +kernel
theorem dX12_quiets_27 : decode cX12_quiets 27 = .ok (.iconst 0, 1) := by decide +kernel
theorem dX12_quiets_28 : decode cX12_quiets 28 = .ok (.iaload, 1) := by decide +kernel
theorem dX12_quiets_29 : decode cX12_quiets 29 = .ok (.if_icmp .ge 77, 3) := by decide +kernel
theorem dX12_quiets_32 : decode cX12_quiets 32 = .ok (.iconst 0, 1) := by decide +kernel
theorem dX12_quiets_33 : decode cX12_quiets 33 = .ok (.istore_n 3, 1) := by decide +kernel
theorem dX12_quiets_34 : decode cX12_quiets 34 = .ok (.iload_n 3, 1) := by decide +kernel
theorem dX12_quiets_35 : decode cX12_quiets 35 = .ok (.aload_n 0, 1) := by decide +kernel
theorem dX12_quiets_36 : decode cX12_quiets 36 = .ok (.getfield 13, 3) := by decide +kernel
theorem dX12_quiets_39 : decode cX12_quiets 39 = .ok (.iconst 0, 1) := by decide +kernel
theorem dX12_quiets_40 : decode cX12_quiets 40 = .ok (.iaload, 1) := by decide +kernel
theorem dX12_quiets_41 : decode cX12_quiets 41 = .ok (.if_icmp .ge 59, 3) := by decide +kernel
theorem dX12_quiets_44 : decode cX12_quiets 44 = .ok (.aload_n 0, 1) := by decide +kernel
theorem dX12_quiets_45 : decode cX12_quiets 45 = .ok (.iload_n 2, 1) := by decide +kernel
theorem dX12_quiets_46 : decode cX12_quiets 46 = .ok (.invokevirtual 391, 3) := by decide +kernel
theorem dX12_quiets_49 : decode cX12_quiets 49 = .ok (.ifCond .eq 51, 3) := by decide +kernel
theorem dX12_quiets_52 : decode cX12_quiets 52 = .ok (.iload_n 3, 1) := by decide +kernel
theorem dX12_quiets_53 : decode cX12_quiets 53 = .ok (.iload_n 2, 1) := by decide +kernel
theorem dX12_quiets_54 : decode cX12_quiets 54 = .ok (.if_icmp .eq 40, 3) := by decide +kernel
theorem dX12_quiets_57 : decode cX12_quiets 57 = .ok (.aload_n 0, 1) := by decide +kernel
theorem dX12_quiets_58 : decode cX12_quiets 58 = .ok (.iload_n 3, 1) := by decide +kernel
theorem dX12_quiets_59 : decode cX12_quiets 59 = .ok (.invokevirtual 350, 3) := by decide +kernel
theorem dX12_quiets_62 : decode cX12_quiets 62 = .ok (.ifCond .eq 32, 3) := by decide +kernel
theorem dX12_quiets_65 : decode cX12_quiets 65 = .ok (.iload_n 1, 1) := by decide +kernel
theorem dX12_quiets_66 : decode cX12_quiets 66 = .ok (.ifCond .ge 6, 3) := by decide +kernel
theorem dX12_quiets_69 : decode cX12_quiets 69 = .ok (.goto 25, 3) := by decide +kernel
theorem dX12_quiets_72 : decode cX12_quiets 72 = .ok (.aload_n 0, 1) := by decide +kernel
theorem dX12_quiets_73 : decode cX12_quiets 73 = .ok (.iload_n 2, 1) := by decide +kernel
theorem dX12_quiets_74 : decode cX12_quiets 74 = .ok (.iload_n 3, 1) := by decide +kernel
theorem dX12_quiets_75 : decode cX12_quiets 75 = .ok (.invokevirtual 440, 3) := by decide +kernel
theorem dX12_quiets_78 : decode cX12_quiets 78 = .ok (.istore 4, 2) := by decide +kernel
theorem dX12_quiets_80 : decode cX12_quiets 80 = .ok (.iload 4, 2) := by decide +kernel
theorem dX12_quiets_82 : decode cX12_quiets 82 = .ok (.ifCond .ge 7, 3) := by decide +kernel
theorem dX12_quiets_85 : decode cX12_quiets 85 = .ok (.iconst (-1), 1) := by decide +kernel
theorem dX12_quiets_86 : decode cX12_quiets 86 = .ok (.goto 7, 3) := by decide +kernel
theorem dX12_quiets_89 : decode cX12_quiets 89 = .ok (.iload_n 1, 1) := by decide +kernel
theorem dX12_quiets_90 : decode cX12_quiets 90 = .ok (.iload 4, 2) := by decide +kernel
theorem dX12_quiets_92 : decode cX12_quiets 92 = .ok (.iadd, 1) := by decide +kernel
theorem dX12_quiets_93 : decode cX12_quiets 93 = .ok (.istore_n 1, 1) := by decide +kernel
theorem dX12_quiets_94 : decode cX12_quiets 94 = .ok (.iinc 3 1, 3) := by decide +kernel
theorem dX12_quiets_97 : decode cX12_quiets 97 = .ok (.goto (-63), 3) := by decide +kernel
theorem dX12_quiets_100 : decode cX12_quiets 100 = .ok (.iinc 2 1, 3) := by decide +kernel
theorem dX12_quiets_103 : decode cX12_quiets 103 = .ok (.goto (-81), 3) := by decide +kernel
theorem dX12_quiets_106 : decode cX12_quiets 106 = .ok (.aload_n 0, 1) := by decide +kernel
theorem dX12_quiets_107 : decode cX12_quiets 107 = .ok (.getfield 108, 3) := by decide +kernel
theorem dX12_quiets_110 : decode cX12_quiets 110 = .ok (.iconst 0, 1) := by decide +kernel
theorem dX12_quiets_111 : decode cX12_quiets 111 = .ok (.aload_n 0, 1) := by decide +kernel
theorem dX12_quiets_112 : decode cX12_quiets 112 = .ok (.getfield 105, 3) := by decide +kernel
theorem dX12_quiets_115 : decode cX12_quiets 115 = .ok (.iconst 0, 1) := by decide +kernel
theorem dX12_quiets_116 : decode cX12_quiets 116 = .ok (.invokestatic 409, 3) := by decide +kernel
theorem dX12_quiets_119 : decode cX12_quiets 119 = .ok (.iload_n 1, 1) := by decide +kernel
theorem dX12_quiets_120 : decode cX12_quiets 120 = .ok (.ireturn, 1) := by decide +kernel
def g_X12_quiets_34 (t0 : Nat) (k22 : Int32 → Int32 → zH → Option (Int32 × zH)) : Nat → Int32 → Int32 → Int32 → zH → Option (Int32 × zH)
  | 0, _, _, _, _ => none
  | n + 1, x1, x2, x3, h => zgu (zin 0 8) <| if (h.1 (zR t0 10) (zx 0)) ≤ x3 then (k22 x1 (x2 + 1) h) else ((g_X12_mayCast h t0 x2).bind fun v_8 => if (zb v_8) = 0 then (k22 x1 (x2 + 1) h) else (if x3 = x2 then (g_X12_quiets_34 t0 k22 n x1 x2 (x3 + 1) h) else ((g_X12_isAlive h t0 x3).bind fun v_11 => if (zb v_11) = 0 then (g_X12_quiets_34 t0 k22 n x1 x2 (x3 + 1) h) else (if 0 ≤ x1 then ((g_X12_quietsOf h t0 x2 x3).bind fun v_14 => if 0 ≤ v_14.1 then (g_X12_quiets_34 t0 k22 n (x1 + v_14.1) x2 (x3 + 1) v_14.2) else (g_X12_quiets_34 t0 k22 n (-1) x2 (x3 + 1) v_14.2)) else (g_X12_quiets_34 t0 k22 n x1 x2 (x3 + 1) h)))))
def g_X12_quiets_22 (t0 : Nat)  : Nat → Int32 → Int32 → zH → Option (Int32 × zH)
  | 0, _, _, _ => none
  | n + 1, x1, x2, h => zgu (zin 0 8) <| if (h.1 (zR t0 10) (zx 0)) ≤ x2 then ((g_X12_copies h (zR t0 45) 107 0 (zR t0 44) 107 0).bind fun v_5 => some (x1, v_5)) else (g_X12_quiets_34 t0 (g_X12_quiets_22 t0 n) zfu x1 x2 0 h)
def g_X12_quiets (h : zH) (t0 : Nat) : Option (Int32 × zH) := zlet (zpi h t0 0 0) fun h_1 => (g_X12_copies h_1 (zR t0 44) 107 0 (zR t0 45) 107 0).bind fun v_2 => g_X12_quiets_22 t0 zfu 0 0 v_2
set_option maxRecDepth 100000 in
set_option maxHeartbeats 4000000 in
theorem b_X12_quiets_34 {K : zK} {G : zG} (hK : zC K G cX12_quiets RX12 5 6 138 (some .int)) {t0 : Nat} (ht0 : zT t0 = (11, 0)) {r : Int32 × zH} (hE : zE K G (some (.int r.1)) r.2) {k22 : Int32 → Int32 → zH → Option (Int32 × zH)} (hk22 : ∀ (x1 : Int32) (x2 : Int32) (h : zH), k22 x1 x2 h = some r → zW K G 5 22 [(0, .ref (G.2.2.2 t0)), (1, .int x1), (2, .int x2)] [] h) : ∀ (n : Nat) (x1 : Int32) (x2 : Int32) (x3 : Int32) (h : zH), g_X12_quiets_34 t0 k22 n x1 x2 x3 h = some r → zW K G 5 34 [(0, .ref (G.2.2.2 t0)), (1, .int x1), (2, .int x2), (3, .int x3)] [] h := by
  intro n
  induction n with
  | zero => intro x1 x2 x3 h hg; exact nomatch (show none = some r from hg)
  | succ n ih =>
    intro x1 x2 x3 h hg
    rw [g_X12_quiets_34] at hg
    obtain ⟨c_6, hg⟩ := zgu_some hg
    refine z_iload_n (pc := 34) hK 3 dX12_quiets_34 rfl (z_aload_n (pc := 35) hK 0 dX12_quiets_35 rfl (z_getR (pc := 36) hK f_X12_13_11 ht0 dX12_quiets_36 (z_iconst (pc := 39) hK dX12_quiets_39 zc_i0 (z_iald (pc := 40) hK (zt_11_10 ht0) c_6 dX12_quiets_40 (z_icmp_ge (pc := 41) hK 100 dX12_quiets_41 (by decide) (fun c_7 => ?_) (fun c_7 => ?_))))))
    · rw [if_pos c_7] at hg
      exact z_iinc (pc := 100) hK 2 (lv' := [(2, .int (x2 + 1)), (0, .ref (G.2.2.2 t0)), (1, .int x1), (3, .int x3)]) dX12_quiets_100 rfl (zc_n1 _) (by decide) rfl (z_goto (pc := 103) hK 22 dX12_quiets_103 (by decide) (zsub (lv' := [(0, .ref (G.2.2.2 t0)), (1, .int x1), (2, .int (x2 + 1))]) [1, 2, 0] rfl (hk22 x1 (x2 + 1) h hg)))
    · rw [if_neg c_7] at hg
      obtain ⟨v_8, qv_8, hg⟩ := zbind_some hg
      refine z_aload_n (pc := 44) hK 0 dX12_quiets_44 rfl (z_iload_n (pc := 45) hK 2 dX12_quiets_45 rfl (z_callVi (pc := 46) hK [.int x2] (m_X12_mayCast (zC_D hK) ht0 qv_8) sv_X12_mayCast q_1748 ht0 rfl [] rfl (Nat.le_of_ble_eq_true rfl) ⟨by decide, by decide⟩ dX12_quiets_46 (z_if_eq (pc := 49) hK 100 dX12_quiets_49 (by decide) (fun c_9 => ?_) (fun c_9 => ?_))))
      · rw [if_pos c_9] at hg
        exact z_iinc (pc := 100) hK 2 (lv' := [(2, .int (x2 + 1)), (0, .ref (G.2.2.2 t0)), (1, .int x1), (3, .int x3)]) dX12_quiets_100 rfl (zc_n1 _) (by decide) rfl (z_goto (pc := 103) hK 22 dX12_quiets_103 (by decide) (zsub (lv' := [(0, .ref (G.2.2.2 t0)), (1, .int x1), (2, .int (x2 + 1))]) [1, 2, 0] rfl (hk22 x1 (x2 + 1) h hg)))
      · rw [if_neg c_9] at hg
        refine z_iload_n (pc := 52) hK 3 dX12_quiets_52 rfl (z_iload_n (pc := 53) hK 2 dX12_quiets_53 rfl (z_icmp_eq (pc := 54) hK 94 dX12_quiets_54 (by decide) (fun c_10 => ?_) (fun c_10 => ?_)))
        · rw [if_pos c_10] at hg
          exact z_iinc (pc := 94) hK 3 (lv' := [(3, .int (x3 + 1)), (0, .ref (G.2.2.2 t0)), (1, .int x1), (2, .int x2)]) dX12_quiets_94 rfl (zc_n1 _) (by decide) rfl (z_goto (pc := 97) hK 34 dX12_quiets_97 (by decide) (zsub (lv' := [(0, .ref (G.2.2.2 t0)), (1, .int x1), (2, .int x2), (3, .int (x3 + 1))]) [1, 2, 3, 0] rfl (ih x1 x2 (x3 + 1) h hg)))
        · rw [if_neg c_10] at hg
          obtain ⟨v_11, qv_11, hg⟩ := zbind_some hg
          refine z_aload_n (pc := 57) hK 0 dX12_quiets_57 rfl (z_iload_n (pc := 58) hK 3 dX12_quiets_58 rfl (z_callVi (pc := 59) hK [.int x3] (m_X12_isAlive (zC_D hK) ht0 qv_11) sv_X12_isAlive q_1628 ht0 rfl [] rfl (Nat.le_of_ble_eq_true rfl) ⟨by decide, by decide⟩ dX12_quiets_59 (z_if_eq (pc := 62) hK 94 dX12_quiets_62 (by decide) (fun c_12 => ?_) (fun c_12 => ?_))))
          · rw [if_pos c_12] at hg
            exact z_iinc (pc := 94) hK 3 (lv' := [(3, .int (x3 + 1)), (0, .ref (G.2.2.2 t0)), (1, .int x1), (2, .int x2)]) dX12_quiets_94 rfl (zc_n1 _) (by decide) rfl (z_goto (pc := 97) hK 34 dX12_quiets_97 (by decide) (zsub (lv' := [(0, .ref (G.2.2.2 t0)), (1, .int x1), (2, .int x2), (3, .int (x3 + 1))]) [1, 2, 3, 0] rfl (ih x1 x2 (x3 + 1) h hg)))
          · rw [if_neg c_12] at hg
            refine z_iload_n (pc := 65) hK 1 dX12_quiets_65 rfl (z_if_ge (pc := 66) hK 72 dX12_quiets_66 (by decide) (fun c_13 => ?_) (fun c_13 => ?_))
            · rw [if_pos c_13] at hg
              obtain ⟨v_14, qv_14, hg⟩ := zbind_some hg
              refine z_aload_n (pc := 72) hK 0 dX12_quiets_72 rfl (z_iload_n (pc := 73) hK 2 dX12_quiets_73 rfl (z_iload_n (pc := 74) hK 3 dX12_quiets_74 rfl (z_callVi (pc := 75) hK [.int x2, .int x3] (m_X12_quietsOf (zC_D hK) ht0 qv_14) sv_X12_quietsOf q_1804 ht0 rfl [] rfl (Nat.le_of_ble_eq_true rfl) ⟨by decide, by decide⟩ dX12_quiets_75 (z_istore (pc := 78) hK (lv' := [(4, .int v_14.1), (0, .ref (G.2.2.2 t0)), (1, .int x1), (2, .int x2), (3, .int x3)]) dX12_quiets_78 (by decide) rfl (z_iload (pc := 80) hK 0 dX12_quiets_80 rfl (z_if_ge (pc := 82) hK 89 dX12_quiets_82 (by decide) (fun c_15 => ?_) (fun c_15 => ?_)))))))
              · rw [if_pos c_15] at hg
                exact z_iload_n (pc := 89) hK 2 dX12_quiets_89 rfl (z_iload (pc := 90) hK 0 dX12_quiets_90 rfl (z_iadd (pc := 92) hK dX12_quiets_92 (z_istore_n (pc := 93) hK (lv' := [(1, .int (x1 + v_14.1)), (4, .int v_14.1), (0, .ref (G.2.2.2 t0)), (2, .int x2), (3, .int x3)]) dX12_quiets_93 (by decide) rfl (z_iinc (pc := 94) hK 4 (lv' := [(3, .int (x3 + 1)), (1, .int (x1 + v_14.1)), (4, .int v_14.1), (0, .ref (G.2.2.2 t0)), (2, .int x2)]) dX12_quiets_94 rfl (zc_n1 _) (by decide) rfl (z_goto (pc := 97) hK 34 dX12_quiets_97 (by decide) (zsub (lv' := [(0, .ref (G.2.2.2 t0)), (1, .int (x1 + v_14.1)), (2, .int x2), (3, .int (x3 + 1))]) [3, 1, 4, 0] rfl (ih (x1 + v_14.1) x2 (x3 + 1) v_14.2 hg)))))))
              · rw [if_neg c_15] at hg
                exact z_iconst (pc := 85) hK dX12_quiets_85 zc_im1 (z_goto (pc := 86) hK 93 dX12_quiets_86 (by decide) (z_istore_n (pc := 93) hK (lv' := [(1, .int (-1)), (4, .int v_14.1), (0, .ref (G.2.2.2 t0)), (2, .int x2), (3, .int x3)]) dX12_quiets_93 (by decide) rfl (z_iinc (pc := 94) hK 4 (lv' := [(3, .int (x3 + 1)), (1, .int (-1)), (4, .int v_14.1), (0, .ref (G.2.2.2 t0)), (2, .int x2)]) dX12_quiets_94 rfl (zc_n1 _) (by decide) rfl (z_goto (pc := 97) hK 34 dX12_quiets_97 (by decide) (zsub (lv' := [(0, .ref (G.2.2.2 t0)), (1, .int (-1)), (2, .int x2), (3, .int (x3 + 1))]) [3, 1, 4, 0] rfl (ih (-1) x2 (x3 + 1) v_14.2 hg))))))
            · rw [if_neg c_13] at hg
              exact z_goto (pc := 69) hK 94 dX12_quiets_69 (by decide) (z_iinc (pc := 94) hK 3 (lv' := [(3, .int (x3 + 1)), (0, .ref (G.2.2.2 t0)), (1, .int x1), (2, .int x2)]) dX12_quiets_94 rfl (zc_n1 _) (by decide) rfl (z_goto (pc := 97) hK 34 dX12_quiets_97 (by decide) (zsub (lv' := [(0, .ref (G.2.2.2 t0)), (1, .int x1), (2, .int x2), (3, .int (x3 + 1))]) [1, 2, 3, 0] rfl (ih x1 x2 (x3 + 1) h hg))))
set_option maxRecDepth 100000 in
set_option maxHeartbeats 4000000 in
theorem b_X12_quiets_22 {K : zK} {G : zG} (hK : zC K G cX12_quiets RX12 5 6 138 (some .int)) {t0 : Nat} (ht0 : zT t0 = (11, 0)) {r : Int32 × zH} (hE : zE K G (some (.int r.1)) r.2) : ∀ (n : Nat) (x1 : Int32) (x2 : Int32) (h : zH), g_X12_quiets_22 t0 n x1 x2 h = some r → zW K G 5 22 [(0, .ref (G.2.2.2 t0)), (1, .int x1), (2, .int x2)] [] h := by
  intro n
  induction n with
  | zero => intro x1 x2 h hg; exact nomatch (show none = some r from hg)
  | succ n ih =>
    intro x1 x2 h hg
    rw [g_X12_quiets_22] at hg
    obtain ⟨c_3, hg⟩ := zgu_some hg
    refine z_iload_n (pc := 22) hK 2 dX12_quiets_22 rfl (z_aload_n (pc := 23) hK 0 dX12_quiets_23 rfl (z_getR (pc := 24) hK f_X12_13_11 ht0 dX12_quiets_24 (z_iconst (pc := 27) hK dX12_quiets_27 zc_i0 (z_iald (pc := 28) hK (zt_11_10 ht0) c_3 dX12_quiets_28 (z_icmp_ge (pc := 29) hK 106 dX12_quiets_29 (by decide) (fun c_4 => ?_) (fun c_4 => ?_))))))
    · rw [if_pos c_4] at hg
      obtain ⟨v_5, qv_5, hg⟩ := zbind_some hg
      exact z_aload_n (pc := 106) hK 0 dX12_quiets_106 rfl (z_getR (pc := 107) hK f_X12_108_11 ht0 dX12_quiets_107 (z_iconst (pc := 110) hK dX12_quiets_110 zc_i0 (z_aload_n (pc := 111) hK 0 dX12_quiets_111 rfl (z_getR (pc := 112) hK f_X12_105_11 ht0 dX12_quiets_112 (z_iconst (pc := 115) hK dX12_quiets_115 zc_i0 (z_callSv (pc := 116) hK [.ref (G.2.2.2 (zR t0 45)), .int 0, .ref (G.2.2.2 (zR t0 44)), .int 0] (m_X12_copies (zC_D hK) (zt_11_45 ht0) (zt_11_44 ht0) qv_5) ss_X12_copies q_1676 rfl [] rfl (Nat.le_of_ble_eq_true rfl) ⟨by decide, by decide⟩ dX12_quiets_116 (z_iload_n (pc := 119) hK 1 dX12_quiets_119 rfl (z_iretE (pc := 120) hK hE hg dX12_quiets_120))))))))
    · rw [if_neg c_4] at hg
      exact z_iconst (pc := 32) hK dX12_quiets_32 zc_i0 (z_istore_n (pc := 33) hK (lv' := [(3, .int 0), (0, .ref (G.2.2.2 t0)), (1, .int x1), (2, .int x2)]) dX12_quiets_33 (by decide) rfl (zsub (lv' := [(0, .ref (G.2.2.2 t0)), (1, .int x1), (2, .int x2), (3, .int 0)]) [1, 2, 3, 0] rfl (b_X12_quiets_34 hK ht0 hE ih zfu x1 x2 0 h hg)))
set_option maxRecDepth 100000 in
set_option maxHeartbeats 4000000 in
theorem b_X12_quiets {K : zK} {G : zG} (hK : zC K G cX12_quiets RX12 5 6 138 (some .int)) {h : zH} {t0 : Nat} (ht0 : zT t0 = (11, 0)) {r : Int32 × zH} (hE : zE K G (some (.int r.1)) r.2) (hg : g_X12_quiets h t0 = some r) : zW K G 5 0 [(0, .ref (G.2.2.2 t0))] [] h := by
  rw [g_X12_quiets] at hg
  obtain ⟨h_1, eh_1, hg⟩ := zlet_some hg
  obtain ⟨v_2, qv_2, hg⟩ := zbind_some hg
  exact z_aload_n (pc := 0) hK 0 dX12_quiets_0 rfl (z_iconst (pc := 1) hK dX12_quiets_1 zc_i0 (z_putI (pc := 2) hK f_X12_126_11 fp_11_0 ht0 dX12_quiets_2 (z_nameH eh_1 (z_aload_n (pc := 5) hK 0 dX12_quiets_5 rfl (z_getR (pc := 6) hK f_X12_105_11 ht0 dX12_quiets_6 (z_iconst (pc := 9) hK dX12_quiets_9 zc_i0 (z_aload_n (pc := 10) hK 0 dX12_quiets_10 rfl (z_getR (pc := 11) hK f_X12_108_11 ht0 dX12_quiets_11 (z_iconst (pc := 14) hK dX12_quiets_14 zc_i0 (z_callSv (pc := 15) hK [.ref (G.2.2.2 (zR t0 44)), .int 0, .ref (G.2.2.2 (zR t0 45)), .int 0] (m_X12_copies (zC_D hK) (zt_11_44 ht0) (zt_11_45 ht0) qv_2) ss_X12_copies q_1676 rfl [] rfl (Nat.le_of_ble_eq_true rfl) ⟨by decide, by decide⟩ dX12_quiets_15 (z_iconst (pc := 18) hK dX12_quiets_18 zc_i0 (z_istore_n (pc := 19) hK (lv' := [(1, .int 0), (0, .ref (G.2.2.2 t0))]) dX12_quiets_19 (by decide) rfl (z_iconst (pc := 20) hK dX12_quiets_20 zc_i0 (z_istore_n (pc := 21) hK (lv' := [(2, .int 0), (1, .int 0), (0, .ref (G.2.2.2 t0))]) dX12_quiets_21 (by decide) rfl (zsub (lv' := [(0, .ref (G.2.2.2 t0)), (1, .int 0), (2, .int 0)]) [2, 1, 0] rfl (b_X12_quiets_22 hK ht0 hE zfu 0 0 v_2 hg))))))))))))))))
theorem m_X12_quiets {l : Launch} {G : zG} (hG : zD G) {h : zH} {t0 : Nat} (ht0 : zT t0 = (11, 0)) {r : Int32 × zH} (hg : g_X12_quiets h t0 = some r) : zM l G yX12_quiets cX12_quiets 5 (some .int) 6 138 [.ref (G.2.2.2 t0)] h (some (.int r.1)) r.2 :=
  zM_of hG pn_X12 (Nat.le_of_ble_eq_true rfl) (fun K _ hK hE => b_X12_quiets hK ht0 hE hg)
theorem dX12_should_0 : decode cX12_should 0 = .ok (.aload_n 0, 1) := by decide +kernel
theorem dX12_should_1 : decode cX12_should 1 = .ok (.iconst 0, 1) := by decide +kernel
theorem dX12_should_2 : decode cX12_should 2 = .ok (.putfield 126, 3) := by decide +kernel
theorem dX12_should_5 : decode cX12_should 5 = .ok (.aload_n 0, 1) := by decide +kernel
theorem dX12_should_6 : decode cX12_should 6 = .ok (.iload_n 1, 1) := by decide +kernel
theorem dX12_should_7 : decode cX12_should 7 = .ok (.invokevirtual 344, 3) := by decide +kernel
theorem dX12_should_10 : decode cX12_should 10 = .ok (.ifCond .eq 22, 3) := by decide +kernel
theorem dX12_should_13 : decode cX12_should 13 = .ok (.aload_n 0, 1) := by decide +kernel
theorem dX12_should_14 : decode cX12_should 14 = .ok (.iload_n 1, 1) := by decide +kernel
theorem dX12_should_15 : decode cX12_should 15 = .ok (.invokevirtual 350, 3) := by decide +kernel
theorem dX12_should_18 : decode cX12_should 18 = .ok (.ifCond .eq 14, 3) := by decide +kernel
theorem dX12_should_21 : decode cX12_should 21 = .ok (.aload_n 0, 1) := by decide +kernel
theorem dX12_should_22 : decode cX12_should 22 = .ok (.getfield 105, 3) := by decide +kernel
theorem dX12_should_25 : decode cX12_should 25 = .ok (.iconst 2, 1) := by decide +kernel
theorem dX12_should_26 : decode cX12_should 26 = .ok (.iload_n 1, 1) := by decide +kernel
theorem dX12_should_27 : decode cX12_should 27 = .ok (.iadd, 1) := by decide +kernel
theorem dX12_should_28 : decode cX12_should 28 = .ok (.iaload, 1) := by decide +kernel
theorem dX12_should_29 : decode cX12_should 29 = .ok (.ifCond .ne 5, 3) := by decide +kernel
theorem dX12_should_32 : decode cX12_should 32 = .ok (.iconst (-1), 1) := by decide +kernel
theorem dX12_should_33 : decode cX12_should 33 = .ok (.ireturn, 1) := by decide +kernel
theorem dX12_should_34 : decode cX12_should 34 = .ok (.iconst (-1), 1) := by decide +kernel
theorem dX12_should_35 : decode cX12_should 35 = .ok (.istore_n 2, 1) := by decide +kernel
theorem dX12_should_36 : decode cX12_should 36 = .ok (.iconst 0, 1) := by decide +kernel
theorem dX12_should_37 : decode cX12_should 37 = .ok (.istore_n 3, 1) := by decide +kernel
theorem dX12_should_38 : decode cX12_should 38 = .ok (.iload_n 3, 1) := by decide +kernel
theorem dX12_should_39 : decode cX12_should 39 = .ok (.aload_n 0, 1) := by decide +kernel
theorem dX12_should_40 : decode cX12_should 40 = .ok (.getfield 13, 3) := by decide +kernel
theorem dX12_should_43 : decode cX12_should 43 = .ok (.iconst 0, 1) := by decide +kernel
theorem dX12_should_44 : decode cX12_should 44 = .ok (.iaload, 1) := by decide +kernel
theorem dX12_should_45 : decode cX12_should 45 = .ok (.if_icmp .ge 53, 3) := by decide +kernel
theorem dX12_should_48 : decode cX12_should 48 = .ok (.iload_n 2, 1) := by decide +kernel
theorem dX12_should_49 : decode cX12_should 49 = .ok (.ifCond .ge 49, 3) := by decide +kernel
theorem dX12_should_52 : decode cX12_should 52 = .ok (.iload_n 3, 1) := by decide +kernel
theorem dX12_should_53 : decode cX12_should 53 = .ok (.iload_n 1, 1) := by decide +kernel
theorem dX12_should_54 : decode cX12_should 54 = .ok (.if_icmp .eq 38, 3) := by decide +kernel
theorem dX12_should_57 : decode cX12_should 57 = .ok (.aload_n 0, 1) := by decide +kernel
theorem dX12_should_58 : decode cX12_should 58 = .ok (.iload_n 3, 1) := by decide +kernel
theorem dX12_should_59 : decode cX12_should 59 = .ok (.invokevirtual 350, 3) := by decide +kernel
theorem dX12_should_62 : decode cX12_should 62 = .ok (.ifCond .ne 6, 3) := by decide +kernel
theorem dX12_should_65 : decode cX12_should 65 = .ok (.goto 27, 3) := by decide +kernel
theorem dX12_should_68 : decode cX12_should 68 = .ok (.aload_n 0, 1) := by decide +kernel
theorem dX12_should_69 : decode cX12_should 69 = .ok (.getfield 120, 3) := by decide +kernel
theorem dX12_should_72 : decode cX12_should 72 = .ok (.iload_n 3, 1) := by decide +kernel
theorem dX12_should_73 : decode cX12_should 73 = .ok (.iconst 1, 1) := by decide +kernel
theorem dX12_should_74 : decode cX12_should 74 = .ok (.iastore, 1) := by decide +kernel
theorem dX12_should_75 : decode cX12_should 75 = .ok (.aload_n 0, 1) := by decide +kernel
theorem dX12_should_76 : decode cX12_should 76 = .ok (.invokevirtual 379, 3) := by decide +kernel
theorem dX12_should_79 : decode cX12_should 79 = .ok (.iload_n 1, 1) := by decide +kernel
theorem dX12_should_80 : decode cX12_should 80 = .ok (.if_icmp .ne 5, 3) := by decide +kernel
theorem dX12_should_83 : decode cX12_should 83 = .ok (.iload_n 3, 1) := by decide +kernel
theorem dX12_should_84 : decode cX12_should 84 = .ok (.istore_n 2, 1) := by decide +kernel
theorem dX12_should_85 : decode cX12_should 85 = .ok (.aload_n 0, 1) := by decide +kernel
theorem dX12_should_86 : decode cX12_should 86 = .ok (.getfield 120, 3) := by decide +kernel
theorem dX12_should_89 : decode cX12_should 89 = .ok (.iload_n 3, 1) := by decide +kernel
theorem dX12_should_90 : decode cX12_should 90 = .ok (.iconst 0, 1) := by decide +kernel
theorem dX12_should_91 : decode cX12_should 91 = .ok (.iastore, 1) := by decide +kernel
theorem dX12_should_92 : decode cX12_should 92 = .ok (.iinc 3 1, 3) := by decide +kernel
theorem dX12_should_95 : decode cX12_should 95 = .ok (.goto (-57), 3) := by decide +kernel
theorem dX12_should_98 : decode cX12_should 98 = .ok (.iload_n 2, 1) := by decide +kernel
theorem dX12_should_99 : decode cX12_should 99 = .ok (.ireturn, 1) := by decide +kernel
def g_X12_should_85 (t0 : Nat) (k38 : Int32 → Int32 → Int32 → zH → Option (Int32 × zH)) (x1 : Int32) (x2 : Int32) (x3 : Int32) (h : zH) : Option (Int32 × zH) := zgu (zin x3 7) <| zlet (zpi h (zR t0 50) (zx x3) 0) fun h_19 => k38 x1 x2 (x3 + 1) h_19
def g_X12_should_38 (t0 : Nat)  : Nat → Int32 → Int32 → Int32 → zH → Option (Int32 × zH)
  | 0, _, _, _, _ => none
  | n + 1, x1, x2, x3, h => zgu (zin 0 8) <| if (h.1 (zR t0 10) (zx 0)) ≤ x3 then (some (x2, h)) else (if 0 ≤ x2 then (some (x2, h)) else (if x3 = x1 then (g_X12_should_38 t0 n x1 x2 (x3 + 1) h) else ((g_X12_isAlive h t0 x3).bind fun v_12 => if (zb v_12) = 0 then (g_X12_should_38 t0 n x1 x2 (x3 + 1) h) else (zgu (zin x3 7) <| zlet (zpi h (zR t0 50) (zx x3) 1) fun h_15 => (g_X12_governor h_15 t0).bind fun v_16 => if v_16 = x1 then (g_X12_should_85 t0 (g_X12_should_38 t0 n) x1 x3 x3 h_15) else (g_X12_should_85 t0 (g_X12_should_38 t0 n) x1 x2 x3 h_15)))))
def g_X12_should (h : zH) (t0 : Nat) (x1 : Int32) : Option (Int32 × zH) := zlet (zpi h t0 0 0) fun h_1 => (g_X12_isPerson h_1 t0 x1).bind fun v_2 => if (zb v_2) = 0 then (some ((-1), h_1)) else ((g_X12_isAlive h_1 t0 x1).bind fun v_4 => if (zb v_4) = 0 then (some ((-1), h_1)) else (zgu (zin (2 + x1) 107) <| if (h_1.1 (zR t0 44) (zx (2 + x1))) = 0 then (some ((-1), h_1)) else (g_X12_should_38 t0 zfu x1 (-1) 0 h_1)))
set_option maxRecDepth 100000 in
set_option maxHeartbeats 4000000 in
theorem b_X12_should_85 {K : zK} {G : zG} (hK : zC K G cX12_should RX12 4 4 90 (some .int)) {t0 : Nat} (ht0 : zT t0 = (11, 0)) {r : Int32 × zH} (hE : zE K G (some (.int r.1)) r.2) {k38 : Int32 → Int32 → Int32 → zH → Option (Int32 × zH)} (hk38 : ∀ (x1 : Int32) (x2 : Int32) (x3 : Int32) (h : zH), k38 x1 x2 x3 h = some r → zW K G 4 38 [(0, .ref (G.2.2.2 t0)), (1, .int x1), (2, .int x2), (3, .int x3)] [] h) (x1 : Int32) (x2 : Int32) (x3 : Int32) (h : zH) (hg : g_X12_should_85 t0 k38 x1 x2 x3 h = some r) : zW K G 4 85 [(0, .ref (G.2.2.2 t0)), (1, .int x1), (2, .int x2), (3, .int x3)] [] h := by
  rw [g_X12_should_85] at hg
  obtain ⟨c_18, hg⟩ := zgu_some hg
  obtain ⟨h_19, eh_19, hg⟩ := zlet_some hg
  exact z_aload_n (pc := 85) hK 0 dX12_should_85 rfl (z_getR (pc := 86) hK f_X12_120_11 ht0 dX12_should_86 (z_iload_n (pc := 89) hK 3 dX12_should_89 rfl (z_iconst (pc := 90) hK dX12_should_90 zc_i0 (z_iast (pc := 91) hK (zt_11_50 ht0) c_18 dX12_should_91 (z_nameH eh_19 (z_iinc (pc := 92) hK 3 (lv' := [(3, .int (x3 + 1)), (0, .ref (G.2.2.2 t0)), (1, .int x1), (2, .int x2)]) dX12_should_92 rfl (zc_n1 _) (by decide) rfl (z_goto (pc := 95) hK 38 dX12_should_95 (by decide) (zsub (lv' := [(0, .ref (G.2.2.2 t0)), (1, .int x1), (2, .int x2), (3, .int (x3 + 1))]) [1, 2, 3, 0] rfl (hk38 x1 x2 (x3 + 1) h_19 hg)))))))))
set_option maxRecDepth 100000 in
set_option maxHeartbeats 4000000 in
theorem b_X12_should_38 {K : zK} {G : zG} (hK : zC K G cX12_should RX12 4 4 90 (some .int)) {t0 : Nat} (ht0 : zT t0 = (11, 0)) {r : Int32 × zH} (hE : zE K G (some (.int r.1)) r.2) : ∀ (n : Nat) (x1 : Int32) (x2 : Int32) (x3 : Int32) (h : zH), g_X12_should_38 t0 n x1 x2 x3 h = some r → zW K G 4 38 [(0, .ref (G.2.2.2 t0)), (1, .int x1), (2, .int x2), (3, .int x3)] [] h := by
  intro n
  induction n with
  | zero => intro x1 x2 x3 h hg; exact nomatch (show none = some r from hg)
  | succ n ih =>
    intro x1 x2 x3 h hg
    rw [g_X12_should_38] at hg
    obtain ⟨c_8, hg⟩ := zgu_some hg
    refine z_iload_n (pc := 38) hK 3 dX12_should_38 rfl (z_aload_n (pc := 39) hK 0 dX12_should_39 rfl (z_getR (pc := 40) hK f_X12_13_11 ht0 dX12_should_40 (z_iconst (pc := 43) hK dX12_should_43 zc_i0 (z_iald (pc := 44) hK (zt_11_10 ht0) c_8 dX12_should_44 (z_icmp_ge (pc := 45) hK 98 dX12_should_45 (by decide) (fun c_9 => ?_) (fun c_9 => ?_))))))
    · rw [if_pos c_9] at hg
      exact z_iload_n (pc := 98) hK 2 dX12_should_98 rfl (z_iretE (pc := 99) hK hE hg dX12_should_99)
    · rw [if_neg c_9] at hg
      refine z_iload_n (pc := 48) hK 2 dX12_should_48 rfl (z_if_ge (pc := 49) hK 98 dX12_should_49 (by decide) (fun c_10 => ?_) (fun c_10 => ?_))
      · rw [if_pos c_10] at hg
        exact z_iload_n (pc := 98) hK 2 dX12_should_98 rfl (z_iretE (pc := 99) hK hE hg dX12_should_99)
      · rw [if_neg c_10] at hg
        refine z_iload_n (pc := 52) hK 3 dX12_should_52 rfl (z_iload_n (pc := 53) hK 1 dX12_should_53 rfl (z_icmp_eq (pc := 54) hK 92 dX12_should_54 (by decide) (fun c_11 => ?_) (fun c_11 => ?_)))
        · rw [if_pos c_11] at hg
          exact z_iinc (pc := 92) hK 3 (lv' := [(3, .int (x3 + 1)), (0, .ref (G.2.2.2 t0)), (1, .int x1), (2, .int x2)]) dX12_should_92 rfl (zc_n1 _) (by decide) rfl (z_goto (pc := 95) hK 38 dX12_should_95 (by decide) (zsub (lv' := [(0, .ref (G.2.2.2 t0)), (1, .int x1), (2, .int x2), (3, .int (x3 + 1))]) [1, 2, 3, 0] rfl (ih x1 x2 (x3 + 1) h hg)))
        · rw [if_neg c_11] at hg
          obtain ⟨v_12, qv_12, hg⟩ := zbind_some hg
          refine z_aload_n (pc := 57) hK 0 dX12_should_57 rfl (z_iload_n (pc := 58) hK 3 dX12_should_58 rfl (z_callVi (pc := 59) hK [.int x3] (m_X12_isAlive (zC_D hK) ht0 qv_12) sv_X12_isAlive q_1628 ht0 rfl [] rfl (Nat.le_of_ble_eq_true rfl) ⟨by decide, by decide⟩ dX12_should_59 (z_if_ne (pc := 62) hK 68 dX12_should_62 (by decide) (fun c_13 => ?_) (fun c_13 => ?_))))
          · rw [if_neg c_13] at hg
            obtain ⟨c_14, hg⟩ := zgu_some hg
            obtain ⟨h_15, eh_15, hg⟩ := zlet_some hg
            obtain ⟨v_16, qv_16, hg⟩ := zbind_some hg
            refine z_aload_n (pc := 68) hK 0 dX12_should_68 rfl (z_getR (pc := 69) hK f_X12_120_11 ht0 dX12_should_69 (z_iload_n (pc := 72) hK 3 dX12_should_72 rfl (z_iconst (pc := 73) hK dX12_should_73 zc_i1 (z_iast (pc := 74) hK (zt_11_50 ht0) c_14 dX12_should_74 (z_nameH eh_15 (z_aload_n (pc := 75) hK 0 dX12_should_75 rfl (z_callVi (pc := 76) hK [] (m_X12_governor (zC_D hK) ht0 qv_16) sv_X12_governor q_1652 ht0 rfl [] rfl (Nat.le_of_ble_eq_true rfl) ⟨by decide, by decide⟩ dX12_should_76 (z_iload_n (pc := 79) hK 1 dX12_should_79 rfl (z_icmp_ne (pc := 80) hK 85 dX12_should_80 (by decide) (fun c_17 => ?_) (fun c_17 => ?_))))))))))
            · rw [if_neg c_17] at hg
              exact zsub (lv' := [(0, .ref (G.2.2.2 t0)), (1, .int x1), (2, .int x2), (3, .int x3)]) [0, 1, 2, 3] rfl (b_X12_should_85 hK ht0 hE ih x1 x2 x3 h_15 hg)
            · rw [if_pos c_17] at hg
              exact z_iload_n (pc := 83) hK 3 dX12_should_83 rfl (z_istore_n (pc := 84) hK (lv' := [(2, .int x3), (0, .ref (G.2.2.2 t0)), (1, .int x1), (3, .int x3)]) dX12_should_84 (by decide) rfl (zsub (lv' := [(0, .ref (G.2.2.2 t0)), (1, .int x1), (2, .int x3), (3, .int x3)]) [1, 2, 0, 3] rfl (b_X12_should_85 hK ht0 hE ih x1 x3 x3 h_15 hg)))
          · rw [if_pos c_13] at hg
            exact z_goto (pc := 65) hK 92 dX12_should_65 (by decide) (z_iinc (pc := 92) hK 3 (lv' := [(3, .int (x3 + 1)), (0, .ref (G.2.2.2 t0)), (1, .int x1), (2, .int x2)]) dX12_should_92 rfl (zc_n1 _) (by decide) rfl (z_goto (pc := 95) hK 38 dX12_should_95 (by decide) (zsub (lv' := [(0, .ref (G.2.2.2 t0)), (1, .int x1), (2, .int x2), (3, .int (x3 + 1))]) [1, 2, 3, 0] rfl (ih x1 x2 (x3 + 1) h hg))))
set_option maxRecDepth 100000 in
set_option maxHeartbeats 4000000 in
theorem b_X12_should {K : zK} {G : zG} (hK : zC K G cX12_should RX12 4 4 90 (some .int)) {h : zH} {t0 : Nat} {x1 : Int32} (ht0 : zT t0 = (11, 0)) {r : Int32 × zH} (hE : zE K G (some (.int r.1)) r.2) (hg : g_X12_should h t0 x1 = some r) : zW K G 4 0 [(0, .ref (G.2.2.2 t0)), (1, .int x1)] [] h := by
  rw [g_X12_should] at hg
  obtain ⟨h_1, eh_1, hg⟩ := zlet_some hg
  obtain ⟨v_2, qv_2, hg⟩ := zbind_some hg
  refine z_aload_n (pc := 0) hK 0 dX12_should_0 rfl (z_iconst (pc := 1) hK dX12_should_1 zc_i0 (z_putI (pc := 2) hK f_X12_126_11 fp_11_0 ht0 dX12_should_2 (z_nameH eh_1 (z_aload_n (pc := 5) hK 0 dX12_should_5 rfl (z_iload_n (pc := 6) hK 1 dX12_should_6 rfl (z_callVi (pc := 7) hK [.int x1] (m_X12_isPerson (zC_D hK) ht0 qv_2) sv_X12_isPerson q_1620 ht0 rfl [] rfl (Nat.le_of_ble_eq_true rfl) ⟨by decide, by decide⟩ dX12_should_7 (z_if_eq (pc := 10) hK 32 dX12_should_10 (by decide) (fun c_3 => ?_) (fun c_3 => ?_))))))))
  · rw [if_pos c_3] at hg
    exact z_iconst (pc := 32) hK dX12_should_32 zc_im1 (z_iretE (pc := 33) hK hE hg dX12_should_33)
  · rw [if_neg c_3] at hg
    obtain ⟨v_4, qv_4, hg⟩ := zbind_some hg
    refine z_aload_n (pc := 13) hK 0 dX12_should_13 rfl (z_iload_n (pc := 14) hK 1 dX12_should_14 rfl (z_callVi (pc := 15) hK [.int x1] (m_X12_isAlive (zC_D hK) ht0 qv_4) sv_X12_isAlive q_1628 ht0 rfl [] rfl (Nat.le_of_ble_eq_true rfl) ⟨by decide, by decide⟩ dX12_should_15 (z_if_eq (pc := 18) hK 32 dX12_should_18 (by decide) (fun c_5 => ?_) (fun c_5 => ?_))))
    · rw [if_pos c_5] at hg
      exact z_iconst (pc := 32) hK dX12_should_32 zc_im1 (z_iretE (pc := 33) hK hE hg dX12_should_33)
    · rw [if_neg c_5] at hg
      obtain ⟨c_6, hg⟩ := zgu_some hg
      refine z_aload_n (pc := 21) hK 0 dX12_should_21 rfl (z_getR (pc := 22) hK f_X12_105_11 ht0 dX12_should_22 (z_iconst (pc := 25) hK dX12_should_25 zc_i2 (z_iload_n (pc := 26) hK 1 dX12_should_26 rfl (z_iadd (pc := 27) hK dX12_should_27 (z_iald (pc := 28) hK (zt_11_44 ht0) c_6 dX12_should_28 (z_if_ne (pc := 29) hK 34 dX12_should_29 (by decide) (fun c_7 => ?_) (fun c_7 => ?_)))))))
      · rw [if_neg c_7] at hg
        exact z_iconst (pc := 34) hK dX12_should_34 zc_im1 (z_istore_n (pc := 35) hK (lv' := [(2, .int (-1)), (0, .ref (G.2.2.2 t0)), (1, .int x1)]) dX12_should_35 (by decide) rfl (z_iconst (pc := 36) hK dX12_should_36 zc_i0 (z_istore_n (pc := 37) hK (lv' := [(3, .int 0), (2, .int (-1)), (0, .ref (G.2.2.2 t0)), (1, .int x1)]) dX12_should_37 (by decide) rfl (zsub (lv' := [(0, .ref (G.2.2.2 t0)), (1, .int x1), (2, .int (-1)), (3, .int 0)]) [2, 3, 1, 0] rfl (b_X12_should_38 hK ht0 hE zfu x1 (-1) 0 h_1 hg)))))
      · rw [if_pos c_7] at hg
        exact z_iconst (pc := 32) hK dX12_should_32 zc_im1 (z_iretE (pc := 33) hK hE hg dX12_should_33)
theorem m_X12_should {l : Launch} {G : zG} (hG : zD G) {h : zH} {t0 : Nat} {x1 : Int32} (ht0 : zT t0 = (11, 0)) {r : Int32 × zH} (hg : g_X12_should h t0 x1 = some r) : zM l G yX12_should cX12_should 4 (some .int) 4 90 [.ref (G.2.2.2 t0), .int x1] h (some (.int r.1)) r.2 :=
  zM_of hG pn_X12 (Nat.le_of_ble_eq_true rfl) (fun K _ hK hE => b_X12_should hK ht0 hE hg)
theorem dX12_hear_0 : decode cX12_hear 0 = .ok (.aload_n 0, 1) := by decide +kernel
theorem dX12_hear_1 : decode cX12_hear 1 = .ok (.iconst 0, 1) := by decide +kernel
theorem dX12_hear_2 : decode cX12_hear 2 = .ok (.putfield 126, 3) := by decide +kernel
theorem dX12_hear_5 : decode cX12_hear 5 = .ok (.iload_n 1, 1) := by decide +kernel
theorem dX12_hear_6 : decode cX12_hear 6 = .ok (.iconst 0, 1) := by decide +kernel
theorem dX12_hear_7 : decode cX12_hear 7 = .ok (.bipush 9, 2) := by decide +kernel
theorem dX12_hear_9 : decode cX12_hear 9 = .ok (.invokestatic 259, 3) := by decide +kernel
theorem dX12_hear_12 : decode cX12_hear 12 = .ok (.ifCond .eq 14, 3) := by decide +kernel
theorem dX12_hear_15 : decode cX12_hear 15 = .ok (.aload_n 0, 1) := by decide +kernel
theorem dX12_hear_16 : decode cX12_hear 16 = .ok (.getfield 96, 3) := by decide +kernel
theorem dX12_hear_19 : decode cX12_hear 19 = .ok (.iconst 0, 1) := by decide +kernel
theorem dX12_hear_20 : decode cX12_hear 20 = .ok (.iaload, 1) := by decide +kernel
theorem dX12_hear_21 : decode cX12_hear 21 = .ok (.bipush 8, 2) := by decide +kernel
theorem dX12_hear_23 : decode cX12_hear 23 = .ok (.if_icmp .ne 5, 3) := by decide +kernel
theorem dX12_hear_26 : decode cX12_hear 26 = .ok (.iconst 0, 1) := by decide +kernel
theorem dX12_hear_27 : decode cX12_hear 27 = .ok (.ireturn, 1) := by decide +kernel
theorem dX12_hear_28 : decode cX12_hear 28 = .ok (.aload_n 0, 1) := by decide +kernel
theorem dX12_hear_29 : decode cX12_hear 29 = .ok (.getfield 99, 3) := by decide +kernel
theorem dX12_hear_32 : decode cX12_hear 32 = .ok (.aload_n 0, 1) := by decide +kernel
theorem dX12_hear_33 : decode cX12_hear 33 = .ok (.getfield 96, 3) := by decide +kernel
theorem dX12_hear_36 : decode cX12_hear 36 = .ok (.iconst 0, 1) := by decide +kernel
theorem dX12_hear_37 : decode cX12_hear 37 = .ok (.iaload, 1) := by decide +kernel
theorem dX12_hear_38 : decode cX12_hear 38 = .ok (.iload_n 1, 1) := by decide +kernel
theorem dX12_hear_39 : decode cX12_hear 39 = .ok (.iastore, 1) := by decide +kernel
theorem dX12_hear_40 : decode cX12_hear 40 = .ok (.aload_n 0, 1) := by decide +kernel
theorem dX12_hear_41 : decode cX12_hear 41 = .ok (.getfield 102, 3) := by decide +kernel
theorem dX12_hear_44 : decode cX12_hear 44 = .ok (.aload_n 0, 1) := by decide +kernel
theorem dX12_hear_45 : decode cX12_hear 45 = .ok (.getfield 96, 3) := by decide +kernel
theorem dX12_hear_48 : decode cX12_hear 48 = .ok (.iconst 0, 1) := by decide +kernel
theorem dX12_hear_49 : decode cX12_hear 49 = .ok (.iaload, 1) := by decide +kernel
theorem dX12_hear_50 : decode cX12_hear 50 = .ok (.iload_n 2, 1) := by decide +kernel
theorem dX12_hear_51 : decode cX12_hear 51 = .ok (.bastore, 1) := by decide +kernel
theorem dX12_hear_52 : decode cX12_hear 52 = .ok (.aload_n 0, 1) := by decide +kernel
theorem dX12_hear_53 : decode cX12_hear 53 = .ok (.getfield 96, 3) := by decide +kernel
theorem dX12_hear_56 : decode cX12_hear 56 = .ok (.iconst 0, 1) := by decide +kernel
theorem dX12_hear_57 : decode cX12_hear 57 = .ok (.dup2, 1) := by decide +kernel
theorem dX12_hear_58 : decode cX12_hear 58 = .ok (.iaload, 1) := by decide +kernel
theorem dX12_hear_59 : decode cX12_hear 59 = .ok (.iconst 1, 1) := by decide +kernel
theorem dX12_hear_60 : decode cX12_hear 60 = .ok (.iadd, 1) := by decide +kernel
theorem dX12_hear_61 : decode cX12_hear 61 = .ok (.iastore, 1) := by decide +kernel
theorem dX12_hear_62 : decode cX12_hear 62 = .ok (.iconst 1, 1) := by decide +kernel
theorem dX12_hear_63 : decode cX12_hear 63 = .ok (.ireturn, 1) := by decide +kernel
def g_X12_hear (h : zH) (t0 : Nat) (x1 : Int32) (x2 : Int32) : Option (Bool × zH) := zlet (zpi h t0 0 0) fun h_1 => (g_X12_within h_1 x1 0 9).bind fun v_2 => if (zb v_2) = 0 then (some (false, h_1)) else (zgu (zin 0 5) <| if (h_1.1 (zR t0 41) (zx 0)) = 8 then (some (false, h_1)) else (zgu (zin 0 5) <| zgu (zin (h_1.1 (zR t0 41) (zx 0)) 40) <| zlet (zpi h_1 (zR t0 42) (zx (h_1.1 (zR t0 41) (zx 0))) x1) fun h_8 => zgu (zin 0 5) <| zgu (zin (h_8.1 (zR t0 41) (zx 0)) 40) <| zlet (zpi h_8 (zR t0 43) (zx (h_8.1 (zR t0 41) (zx 0))) (vp_nar .boolean x2)) fun h_11 => zgu (zin 0 5) <| zgu (zin 0 5) <| zlet (zpi h_11 (zR t0 41) (zx 0) ((h_11.1 (zR t0 41) (zx 0)) + 1)) fun h_14 => some (true, h_14)))
set_option maxRecDepth 100000 in
set_option maxHeartbeats 4000000 in
theorem b_X12_hear {K : zK} {G : zG} (hK : zC K G cX12_hear RX12 3 1 22 (some .boolean)) {h : zH} {t0 : Nat} {x1 : Int32} {x2 : Int32} (ht0 : zT t0 = (11, 0)) {r : Bool × zH} (hE : zE K G (some (.int (zb r.1))) r.2) (hg : g_X12_hear h t0 x1 x2 = some r) : zW K G 3 0 [(0, .ref (G.2.2.2 t0)), (1, .int x1), (2, .int x2)] [] h := by
  rw [g_X12_hear] at hg
  obtain ⟨h_1, eh_1, hg⟩ := zlet_some hg
  obtain ⟨v_2, qv_2, hg⟩ := zbind_some hg
  refine z_aload_n (pc := 0) hK 0 dX12_hear_0 rfl (z_iconst (pc := 1) hK dX12_hear_1 zc_i0 (z_putI (pc := 2) hK f_X12_126_11 fp_11_0 ht0 dX12_hear_2 (z_nameH eh_1 (z_iload_n (pc := 5) hK 1 dX12_hear_5 rfl (z_iconst (pc := 6) hK dX12_hear_6 zc_i0 (z_bipush (pc := 7) hK dX12_hear_7 zc_b9 (z_callSi (pc := 9) hK [.int x1, .int 0, .int 9] (m_X12_within (zC_D hK) qv_2) ss_X12_within q_1538 rfl [] rfl (Nat.le_of_ble_eq_true rfl) ⟨by decide, by decide⟩ dX12_hear_9 (z_if_eq (pc := 12) hK 26 dX12_hear_12 (by decide) (fun c_3 => ?_) (fun c_3 => ?_)))))))))
  · rw [if_pos c_3] at hg
    exact z_iconst (pc := 26) hK dX12_hear_26 zc_i0 (z_zretE (pc := 27) hK rfl hE hg dX12_hear_27)
  · rw [if_neg c_3] at hg
    obtain ⟨c_4, hg⟩ := zgu_some hg
    refine z_aload_n (pc := 15) hK 0 dX12_hear_15 rfl (z_getR (pc := 16) hK f_X12_96_11 ht0 dX12_hear_16 (z_iconst (pc := 19) hK dX12_hear_19 zc_i0 (z_iald (pc := 20) hK (zt_11_41 ht0) c_4 dX12_hear_20 (z_bipush (pc := 21) hK dX12_hear_21 zc_b8 (z_icmp_ne (pc := 23) hK 28 dX12_hear_23 (by decide) (fun c_5 => ?_) (fun c_5 => ?_))))))
    · rw [if_neg c_5] at hg
      obtain ⟨c_6, hg⟩ := zgu_some hg
      obtain ⟨c_7, hg⟩ := zgu_some hg
      obtain ⟨h_8, eh_8, hg⟩ := zlet_some hg
      obtain ⟨c_9, hg⟩ := zgu_some hg
      obtain ⟨c_10, hg⟩ := zgu_some hg
      obtain ⟨h_11, eh_11, hg⟩ := zlet_some hg
      obtain ⟨c_12, hg⟩ := zgu_some hg
      obtain ⟨c_13, hg⟩ := zgu_some hg
      obtain ⟨h_14, eh_14, hg⟩ := zlet_some hg
      exact z_aload_n (pc := 28) hK 0 dX12_hear_28 rfl (z_getR (pc := 29) hK f_X12_99_11 ht0 dX12_hear_29 (z_aload_n (pc := 32) hK 0 dX12_hear_32 rfl (z_getR (pc := 33) hK f_X12_96_11 ht0 dX12_hear_33 (z_iconst (pc := 36) hK dX12_hear_36 zc_i0 (z_iald (pc := 37) hK (zt_11_41 ht0) c_6 dX12_hear_37 (z_iload_n (pc := 38) hK 1 dX12_hear_38 rfl (z_iast (pc := 39) hK (zt_11_42 ht0) c_7 dX12_hear_39 (z_nameH eh_8 (z_aload_n (pc := 40) hK 0 dX12_hear_40 rfl (z_getR (pc := 41) hK f_X12_102_11 ht0 dX12_hear_41 (z_aload_n (pc := 44) hK 0 dX12_hear_44 rfl (z_getR (pc := 45) hK f_X12_96_11 ht0 dX12_hear_45 (z_iconst (pc := 48) hK dX12_hear_48 zc_i0 (z_iald (pc := 49) hK (zt_11_41 ht0) c_9 dX12_hear_49 (z_iload_n (pc := 50) hK 2 dX12_hear_50 rfl (z_zast (pc := 51) hK (zt_11_43 ht0) c_10 dX12_hear_51 (z_nameH eh_11 (z_aload_n (pc := 52) hK 0 dX12_hear_52 rfl (z_getR (pc := 53) hK f_X12_96_11 ht0 dX12_hear_53 (z_iconst (pc := 56) hK dX12_hear_56 zc_i0 (z_dup2 (pc := 57) hK dX12_hear_57 rfl rfl (z_iald (pc := 58) hK (zt_11_41 ht0) c_12 dX12_hear_58 (z_iconst (pc := 59) hK dX12_hear_59 zc_i1 (z_iadd (pc := 60) hK dX12_hear_60 (z_iast (pc := 61) hK (zt_11_41 ht0) c_13 dX12_hear_61 (z_nameH eh_14 (z_iconst (pc := 62) hK dX12_hear_62 zc_i1 (z_zretE (pc := 63) hK rfl hE hg dX12_hear_63))))))))))))))))))))))))))))
    · rw [if_pos c_5] at hg
      exact z_iconst (pc := 26) hK dX12_hear_26 zc_i0 (z_zretE (pc := 27) hK rfl hE hg dX12_hear_27)
theorem m_X12_hear {l : Launch} {G : zG} (hG : zD G) {h : zH} {t0 : Nat} {x1 : Int32} {x2 : Int32} (ht0 : zT t0 = (11, 0)) {r : Bool × zH} (hg : g_X12_hear h t0 x1 x2 = some r) : zM l G yX12_hear cX12_hear 3 (some .boolean) 1 22 [.ref (G.2.2.2 t0), .int x1, .int x2] h (some (.int (zb r.1))) r.2 :=
  zM_of hG pn_X12 (Nat.le_of_ble_eq_true rfl) (fun K _ hK hE => b_X12_hear hK ht0 hE hg)
theorem dX12_isAsHeard_0 : decode cX12_isAsHeard 0 = .ok (.iconst 0, 1) := by decide +kernel
theorem dX12_isAsHeard_1 : decode cX12_isAsHeard 1 = .ok (.istore_n 2, 1) := by decide +kernel
theorem dX12_isAsHeard_2 : decode cX12_isAsHeard 2 = .ok (.iload_n 2, 1) := by decide +kernel
theorem dX12_isAsHeard_3 : decode cX12_isAsHeard 3 = .ok (.aload_n 0, 1) := by decide +kernel
theorem dX12_isAsHeard_4 : decode cX12_isAsHeard 4 = .ok (.getfield 96, 3) := by decide +kernel
theorem dX12_isAsHeard_7 : decode cX12_isAsHeard 7 = .ok (.iconst 0, 1) := by decide +kernel
theorem dX12_isAsHeard_8 : decode cX12_isAsHeard 8 = .ok (.iaload, 1) := by decide +kernel
theorem dX12_isAsHeard_9 : decode cX12_isAsHeard 9 = .ok (.if_icmp .ge 35, 3) := by decide +kernel
theorem dX12_isAsHeard_12 : decode cX12_isAsHeard 12 = .ok (.aload_n 0, 1) := by decide +kernel
theorem dX12_isAsHeard_13 : decode cX12_isAsHeard 13 = .ok (.getfield 99, 3) := by decide +kernel
theorem dX12_isAsHeard_16 : decode cX12_isAsHeard 16 = .ok (.iload_n 2, 1) := by decide +kernel
theorem dX12_isAsHeard_17 : decode cX12_isAsHeard 17 = .ok (.iaload, 1) := by decide +kernel
theorem dX12_isAsHeard_18 : decode cX12_isAsHeard 18 = .ok (.iload_n 1, 1) := by decide +kernel
theorem dX12_isAsHeard_19 : decode cX12_isAsHeard 19 = .ok (.if_icmp .lt 7, 3) := by decide +kernel
theorem dX12_isAsHeard_22 : decode cX12_isAsHeard 22 = .ok (.iconst 1, 1) := by decide +kernel
theorem dX12_isAsHeard_23 : decode cX12_isAsHeard 23 = .ok (.goto 4, 3) := by decide +kernel
theorem dX12_isAsHeard_26 : decode cX12_isAsHeard 26 = .ok (.iconst 0, 1) := by decide +kernel
theorem dX12_isAsHeard_27 : decode cX12_isAsHeard 27 = .ok (.aload_n 0, 1) := by decide +kernel
theorem dX12_isAsHeard_28 : decode cX12_isAsHeard 28 = .ok (.getfield 102, 3) := by decide +kernel
theorem dX12_isAsHeard_31 : decode cX12_isAsHeard 31 = .ok (.iload_n 2, 1) := by decide +kernel
theorem dX12_isAsHeard_32 : decode cX12_isAsHeard 32 = .ok (.baload, 1) := by decide +kernel
theorem dX12_isAsHeard_33 : decode cX12_isAsHeard 33 = .ok (.if_icmp .eq 5, 3) := by decide +kernel
theorem dX12_isAsHeard_36 : decode cX12_isAsHeard 36 = .ok (.iconst 0, 1) := by decide +kernel
theorem dX12_isAsHeard_37 : decode cX12_isAsHeard 37 = .ok (.ireturn, 1) := by decide +kernel
theorem dX12_isAsHeard_38 : decode cX12_isAsHeard 38 = .ok (.iinc 2 1, 3) := by decide +kernel
theorem dX12_isAsHeard_41 : decode cX12_isAsHeard 41 = .ok (.goto (-39), 3) := by decide +kernel
theorem dX12_isAsHeard_44 : decode cX12_isAsHeard 44 = .ok (.iconst 1, 1) := by decide +kernel
theorem dX12_isAsHeard_45 : decode cX12_isAsHeard 45 = .ok (.ireturn, 1) := by decide +kernel
def g_X12_isAsHeard_27 (h : zH) (t0 : Nat) (k2 : Int32 → Int32 → Option Bool) (x1 : Int32) (x2 : Int32) (s0 : Int32) : Option Bool := zgu (zin x2 40) <| if s0 = (h.1 (zR t0 43) (zx x2)) then (k2 x1 (x2 + 1)) else (some false)
def g_X12_isAsHeard_2 (h : zH) (t0 : Nat)  : Nat → Int32 → Int32 → Option Bool
  | 0, _, _ => none
  | n + 1, x1, x2 => zgu (zin 0 5) <| if (h.1 (zR t0 41) (zx 0)) ≤ x2 then (some true) else (zgu (zin x2 40) <| if (h.1 (zR t0 42) (zx x2)) < x1 then (g_X12_isAsHeard_27 h t0 (g_X12_isAsHeard_2 h t0 n) x1 x2 0) else (g_X12_isAsHeard_27 h t0 (g_X12_isAsHeard_2 h t0 n) x1 x2 1))
def g_X12_isAsHeard (h : zH) (t0 : Nat) (x1 : Int32) : Option Bool := g_X12_isAsHeard_2 h t0 zfu x1 0
set_option maxRecDepth 100000 in
set_option maxHeartbeats 4000000 in
theorem b_X12_isAsHeard_27 {K : zK} {G : zG} (hK : zC K G cX12_isAsHeard RX12 3 0 0 (some .boolean)) {h : zH} {t0 : Nat} (ht0 : zT t0 = (11, 0)) {r : Bool} (hE : zE K G (some (.int (zb r))) h) {k2 : Int32 → Int32 → Option Bool} (hk2 : ∀ (x1 : Int32) (x2 : Int32), k2 x1 x2 = some r → zW K G 3 2 [(0, .ref (G.2.2.2 t0)), (1, .int x1), (2, .int x2)] [] h) (x1 : Int32) (x2 : Int32) (s0 : Int32) (hg : g_X12_isAsHeard_27 h t0 k2 x1 x2 s0 = some r) : zW K G 3 27 [(0, .ref (G.2.2.2 t0)), (1, .int x1), (2, .int x2)] [.int s0] h := by
  rw [g_X12_isAsHeard_27] at hg
  obtain ⟨c_5, hg⟩ := zgu_some hg
  refine z_aload_n (pc := 27) hK 0 dX12_isAsHeard_27 rfl (z_getR (pc := 28) hK f_X12_102_11 ht0 dX12_isAsHeard_28 (z_iload_n (pc := 31) hK 2 dX12_isAsHeard_31 rfl (z_zald (pc := 32) hK (zt_11_43 ht0) c_5 dX12_isAsHeard_32 (z_icmp_eq (pc := 33) hK 38 dX12_isAsHeard_33 (by decide) (fun c_6 => ?_) (fun c_6 => ?_)))))
  · rw [if_pos c_6] at hg
    exact z_iinc (pc := 38) hK 2 (lv' := [(2, .int (x2 + 1)), (0, .ref (G.2.2.2 t0)), (1, .int x1)]) dX12_isAsHeard_38 rfl (zc_n1 _) (by decide) rfl (z_goto (pc := 41) hK 2 dX12_isAsHeard_41 (by decide) (zsub (lv' := [(0, .ref (G.2.2.2 t0)), (1, .int x1), (2, .int (x2 + 1))]) [1, 2, 0] rfl (hk2 x1 (x2 + 1) hg)))
  · rw [if_neg c_6] at hg
    exact z_iconst (pc := 36) hK dX12_isAsHeard_36 zc_i0 (z_zretP (pc := 37) hK rfl hE hg dX12_isAsHeard_37)
set_option maxRecDepth 100000 in
set_option maxHeartbeats 4000000 in
theorem b_X12_isAsHeard_2 {K : zK} {G : zG} (hK : zC K G cX12_isAsHeard RX12 3 0 0 (some .boolean)) {h : zH} {t0 : Nat} (ht0 : zT t0 = (11, 0)) {r : Bool} (hE : zE K G (some (.int (zb r))) h) : ∀ (n : Nat) (x1 : Int32) (x2 : Int32), g_X12_isAsHeard_2 h t0 n x1 x2 = some r → zW K G 3 2 [(0, .ref (G.2.2.2 t0)), (1, .int x1), (2, .int x2)] [] h := by
  intro n
  induction n with
  | zero => intro x1 x2 hg; exact nomatch (show none = some r from hg)
  | succ n ih =>
    intro x1 x2 hg
    rw [g_X12_isAsHeard_2] at hg
    obtain ⟨c_1, hg⟩ := zgu_some hg
    refine z_iload_n (pc := 2) hK 2 dX12_isAsHeard_2 rfl (z_aload_n (pc := 3) hK 0 dX12_isAsHeard_3 rfl (z_getR (pc := 4) hK f_X12_96_11 ht0 dX12_isAsHeard_4 (z_iconst (pc := 7) hK dX12_isAsHeard_7 zc_i0 (z_iald (pc := 8) hK (zt_11_41 ht0) c_1 dX12_isAsHeard_8 (z_icmp_ge (pc := 9) hK 44 dX12_isAsHeard_9 (by decide) (fun c_2 => ?_) (fun c_2 => ?_))))))
    · rw [if_pos c_2] at hg
      exact z_iconst (pc := 44) hK dX12_isAsHeard_44 zc_i1 (z_zretP (pc := 45) hK rfl hE hg dX12_isAsHeard_45)
    · rw [if_neg c_2] at hg
      obtain ⟨c_3, hg⟩ := zgu_some hg
      refine z_aload_n (pc := 12) hK 0 dX12_isAsHeard_12 rfl (z_getR (pc := 13) hK f_X12_99_11 ht0 dX12_isAsHeard_13 (z_iload_n (pc := 16) hK 2 dX12_isAsHeard_16 rfl (z_iald (pc := 17) hK (zt_11_42 ht0) c_3 dX12_isAsHeard_17 (z_iload_n (pc := 18) hK 1 dX12_isAsHeard_18 rfl (z_icmp_lt (pc := 19) hK 26 dX12_isAsHeard_19 (by decide) (fun c_4 => ?_) (fun c_4 => ?_))))))
      · rw [if_pos c_4] at hg
        exact z_iconst (pc := 26) hK dX12_isAsHeard_26 zc_i0 (zsub (lv' := [(0, .ref (G.2.2.2 t0)), (1, .int x1), (2, .int x2)]) [0, 1, 2] rfl (b_X12_isAsHeard_27 hK ht0 hE ih x1 x2 0 hg))
      · rw [if_neg c_4] at hg
        exact z_iconst (pc := 22) hK dX12_isAsHeard_22 zc_i1 (z_goto (pc := 23) hK 27 dX12_isAsHeard_23 (by decide) (zsub (lv' := [(0, .ref (G.2.2.2 t0)), (1, .int x1), (2, .int x2)]) [0, 1, 2] rfl (b_X12_isAsHeard_27 hK ht0 hE ih x1 x2 1 hg)))
set_option maxRecDepth 100000 in
set_option maxHeartbeats 4000000 in
theorem b_X12_isAsHeard {K : zK} {G : zG} (hK : zC K G cX12_isAsHeard RX12 3 0 0 (some .boolean)) {h : zH} {t0 : Nat} {x1 : Int32} (ht0 : zT t0 = (11, 0)) {r : Bool} (hE : zE K G (some (.int (zb r))) h) (hg : g_X12_isAsHeard h t0 x1 = some r) : zW K G 3 0 [(0, .ref (G.2.2.2 t0)), (1, .int x1)] [] h := by
  rw [g_X12_isAsHeard] at hg
  exact z_iconst (pc := 0) hK dX12_isAsHeard_0 zc_i0 (z_istore_n (pc := 1) hK (lv' := [(2, .int 0), (0, .ref (G.2.2.2 t0)), (1, .int x1)]) dX12_isAsHeard_1 (by decide) rfl (zsub (lv' := [(0, .ref (G.2.2.2 t0)), (1, .int x1), (2, .int 0)]) [1, 2, 0] rfl (b_X12_isAsHeard_2 hK ht0 hE zfu x1 0 hg)))
theorem m_X12_isAsHeard {l : Launch} {G : zG} (hG : zD G) {h : zH} {t0 : Nat} {x1 : Int32} (ht0 : zT t0 = (11, 0)) {r : Bool} (hg : g_X12_isAsHeard h t0 x1 = some r) : zM l G yX12_isAsHeard cX12_isAsHeard 3 (some .boolean) 0 0 [.ref (G.2.2.2 t0), .int x1] h (some (.int (zb r))) h :=
  zM_of hG pn_X12 (Nat.le_of_ble_eq_true rfl) (fun K _ hK hE => b_X12_isAsHeard hK ht0 hE hg)
