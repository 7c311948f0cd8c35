theorem dX7_countAgainst_0 : decode cX7_countAgainst 0 = .ok (.iconst 0, 1) := by decide +kernel
theorem dX7_countAgainst_1 : decode cX7_countAgainst 1 = .ok (.istore_n 2, 1) := by decide +kernel
theorem dX7_countAgainst_2 : decode cX7_countAgainst 2 = .ok (.iconst 0, 1) := by decide +kernel
theorem dX7_countAgainst_3 : decode cX7_countAgainst 3 = .ok (.istore_n 3, 1) := by decide +kernel
theorem dX7_countAgainst_4 : decode cX7_countAgainst 4 = .ok (.iload_n 3, 1) := by decide +kernel
theorem dX7_countAgainst_5 : decode cX7_countAgainst 5 = .ok (.aload_n 0, 1) := by decide +kernel
theorem dX7_countAgainst_6 : decode cX7_countAgainst 6 = .ok (.getfield 21, 3) := by decide +kernel
theorem dX7_countAgainst_9 : decode cX7_countAgainst 9 = .ok (.getfield 40, 3) := by decide +kernel
theorem dX7_countAgainst_12 : decode cX7_countAgainst 12 = .ok (.if_icmp .ge 41, 3) := by decide +kernel
theorem dX7_countAgainst_15 : decode cX7_countAgainst 15 = .ok (.aload_n 0, 1) := by decide +kernel
theorem dX7_countAgainst_16 : decode cX7_countAgainst 16 = .ok (.getfield 21, 3) := by decide +kernel
theorem dX7_countAgainst_19 : decode cX7_countAgainst 19 = .ok (.getfield 56, 3) := by decide +kernel
theorem dX7_countAgainst_22 : decode cX7_countAgainst 22 = .ok (.ifCond .eq 11, 3) := by decide +kernel
theorem dX7_countAgainst_25 : decode cX7_countAgainst 25 = .ok (.aload_n 0, 1) := by decide +kernel
theorem dX7_countAgainst_26 : decode cX7_countAgainst 26 = .ok (.iload_n 3, 1) := by decide +kernel
theorem dX7_countAgainst_27 : decode cX7_countAgainst 27 = .ok (.invokevirtual 60, 3) := by decide +kernel
theorem dX7_countAgainst_30 : decode cX7_countAgainst 30 = .ok (.ifCond .eq 17, 3) := by decide +kernel
theorem dX7_countAgainst_33 : decode cX7_countAgainst 33 = .ok (.iload_n 2, 1) := by decide +kernel
theorem dX7_countAgainst_34 : decode cX7_countAgainst 34 = .ok (.aload_n 0, 1) := by decide +kernel
theorem dX7_countAgainst_35 : decode cX7_countAgainst 35 = .ok (.getfield 15, 3) := by decide +kernel
theorem dX7_countAgainst_38 : decode cX7_countAgainst 38 = .ok (.iload_n 3, 1) := by decide +kernel
theorem dX7_countAgainst_39 : decode cX7_countAgainst 39 = .ok (.bipush 7, 2) := by decide +kernel
theorem dX7_countAgainst_41 : decode cX7_countAgainst 41 = .ok (.imul, 1) := by decide +kernel
theorem dX7_countAgainst_42 : decode cX7_countAgainst 42 = .ok (.iload_n 1, 1) := by decide +kernel
theorem dX7_countAgainst_43 : decode cX7_countAgainst 43 = .ok (.iadd, 1) := by decide +kernel
theorem dX7_countAgainst_44 : decode cX7_countAgainst 44 = .ok (.iaload, 1) := by decide +kernel
theorem dX7_countAgainst_45 : decode cX7_countAgainst 45 = .ok (.iadd, 1) := by decide +kernel
theorem dX7_countAgainst_46 : decode cX7_countAgainst 46 = .ok (.istore_n 2, 1) := by decide +kernel
theorem dX7_countAgainst_47 : decode cX7_countAgainst 47 = .ok (.iinc 3 1, 3) := by decide +kernel
theorem dX7_countAgainst_50 : decode cX7_countAgainst 50 = .ok (.goto (-46), 3) := by decide +kernel
theorem dX7_countAgainst_53 : decode cX7_countAgainst 53 = .ok (.iload_n 2, 1) := by decide +kernel
theorem dX7_countAgainst_54 : decode cX7_countAgainst 54 = .ok (.ireturn, 1) := by decide +kernel
def g_X7_countAgainst_33 (h : zH) (t0 : Nat) (k4 : Int32 → Int32 → Int32 → Option Int32) (x1 : Int32) (x2 : Int32) (x3 : Int32) : Option Int32 := zgu (zin ((x3 * 7) + x1) 49) <| zlet (x2 + (h.1 (zR t0 2) (zx ((x3 * 7) + x1)))) fun v_6 => k4 x1 v_6 (x3 + 1)
def g_X7_countAgainst_4 (h : zH) (t0 : Nat)  : Nat → Int32 → Int32 → Int32 → Option Int32
  | 0, _, _, _ => none
  | n + 1, x1, x2, x3 => if (h.1 (zR t0 0) 7) ≤ x3 then (some x2) else (if (h.1 (zR t0 0) 9) = 0 then (g_X7_countAgainst_33 h t0 (g_X7_countAgainst_4 h t0 n) x1 x2 x3) else ((g_X7_isAlive h t0 x3).bind fun v_3 => if (zb v_3) = 0 then (g_X7_countAgainst_4 h t0 n x1 x2 (x3 + 1)) else (g_X7_countAgainst_33 h t0 (g_X7_countAgainst_4 h t0 n) x1 x2 x3)))
def g_X7_countAgainst (h : zH) (t0 : Nat) (x1 : Int32) : Option Int32 := g_X7_countAgainst_4 h t0 zfu x1 0 0
set_option maxRecDepth 100000 in
set_option maxHeartbeats 4000000 in
theorem b_X7_countAgainst_33 {K : zK} {G : zG} (hK : zC K G cX7_countAgainst RX7 4 1 21 (some .int)) {h : zH} {t0 : Nat} (ht0 : zT t0 = (6, 0)) {r : Int32} (hE : zE K G (some (.int r)) h) {k4 : Int32 → Int32 → Int32 → Option Int32} (hk4 : ∀ (x1 : Int32) (x2 : Int32) (x3 : Int32), k4 x1 x2 x3 = some r → zW K G 4 4 [(0, .ref (G.2.2.2 t0)), (1, .int x1), (2, .int x2), (3, .int x3)] [] h) (x1 : Int32) (x2 : Int32) (x3 : Int32) (hg : g_X7_countAgainst_33 h t0 k4 x1 x2 x3 = some r) : zW K G 4 33 [(0, .ref (G.2.2.2 t0)), (1, .int x1), (2, .int x2), (3, .int x3)] [] h := by
  rw [g_X7_countAgainst_33] at hg
  obtain ⟨c_5, hg⟩ := zgu_some hg
  obtain ⟨v_6, ev_6, hg⟩ := zlet_some hg
  exact z_iload_n (pc := 33) hK 2 dX7_countAgainst_33 rfl (z_aload_n (pc := 34) hK 0 dX7_countAgainst_34 rfl (z_getR (pc := 35) hK f_X7_15_6 ht0 dX7_countAgainst_35 (z_iload_n (pc := 38) hK 3 dX7_countAgainst_38 rfl (z_bipush (pc := 39) hK dX7_countAgainst_39 zc_b7 (z_imul (pc := 41) hK dX7_countAgainst_41 (z_iload_n (pc := 42) hK 1 dX7_countAgainst_42 rfl (z_iadd (pc := 43) hK dX7_countAgainst_43 (z_iald (pc := 44) hK (zt_6_2 ht0) c_5 dX7_countAgainst_44 (z_iadd (pc := 45) hK dX7_countAgainst_45 (z_nameI ev_6 (z_istore_n (pc := 46) hK (lv' := [(2, .int v_6), (0, .ref (G.2.2.2 t0)), (1, .int x1), (3, .int x3)]) dX7_countAgainst_46 (by decide) rfl (z_iinc (pc := 47) hK 3 (lv' := [(3, .int (x3 + 1)), (2, .int v_6), (0, .ref (G.2.2.2 t0)), (1, .int x1)]) dX7_countAgainst_47 rfl (zc_n1 _) (by decide) rfl (z_goto (pc := 50) hK 4 dX7_countAgainst_50 (by decide) (zsub (lv' := [(0, .ref (G.2.2.2 t0)), (1, .int x1), (2, .int v_6), (3, .int (x3 + 1))]) [2, 3, 1, 0] rfl (hk4 x1 v_6 (x3 + 1) hg)))))))))))))))
set_option maxRecDepth 100000 in
set_option maxHeartbeats 4000000 in
theorem b_X7_countAgainst_4 {K : zK} {G : zG} (hK : zC K G cX7_countAgainst RX7 4 1 21 (some .int)) {h : zH} {t0 : Nat} (ht0 : zT t0 = (6, 0)) {r : Int32} (hE : zE K G (some (.int r)) h) : ∀ (n : Nat) (x1 : Int32) (x2 : Int32) (x3 : Int32), g_X7_countAgainst_4 h t0 n x1 x2 x3 = some r → zW K G 4 4 [(0, .ref (G.2.2.2 t0)), (1, .int x1), (2, .int x2), (3, .int x3)] [] h := by
  intro n
  induction n with
  | zero => intro x1 x2 x3 hg; exact nomatch (show none = some r from hg)
  | succ n ih =>
    intro x1 x2 x3 hg
    rw [g_X7_countAgainst_4] at hg
    refine z_iload_n (pc := 4) hK 3 dX7_countAgainst_4 rfl (z_aload_n (pc := 5) hK 0 dX7_countAgainst_5 rfl (z_getR (pc := 6) hK f_X7_21_6 ht0 dX7_countAgainst_6 (z_getI (pc := 9) hK f_X7_40_4 (zt_6_0 ht0) dX7_countAgainst_9 (z_icmp_ge (pc := 12) hK 53 dX7_countAgainst_12 (by decide) (fun c_1 => ?_) (fun c_1 => ?_)))))
    · rw [if_pos c_1] at hg
      exact z_iload_n (pc := 53) hK 2 dX7_countAgainst_53 rfl (z_iretP (pc := 54) hK hE hg dX7_countAgainst_54)
    · rw [if_neg c_1] at hg
      refine z_aload_n (pc := 15) hK 0 dX7_countAgainst_15 rfl (z_getR (pc := 16) hK f_X7_21_6 ht0 dX7_countAgainst_16 (z_getI (pc := 19) hK f_X7_56_4 (zt_6_0 ht0) dX7_countAgainst_19 (z_if_eq (pc := 22) hK 33 dX7_countAgainst_22 (by decide) (fun c_2 => ?_) (fun c_2 => ?_))))
      · rw [if_pos c_2] at hg
        exact zsub (lv' := [(0, .ref (G.2.2.2 t0)), (1, .int x1), (2, .int x2), (3, .int x3)]) [0, 1, 2, 3] rfl (b_X7_countAgainst_33 hK ht0 hE ih x1 x2 x3 hg)
      · rw [if_neg c_2] at hg
        obtain ⟨v_3, qv_3, hg⟩ := zbind_some hg
        refine z_aload_n (pc := 25) hK 0 dX7_countAgainst_25 rfl (z_iload_n (pc := 26) hK 3 dX7_countAgainst_26 rfl (z_callVi (pc := 27) hK [.int x3] (m_X7_isAlive (zC_D hK) ht0 qv_3) sv_X7_isAlive q_883 ht0 rfl [] rfl (Nat.le_of_ble_eq_true rfl) ⟨by decide, by decide⟩ dX7_countAgainst_27 (z_if_eq (pc := 30) hK 47 dX7_countAgainst_30 (by decide) (fun c_4 => ?_) (fun c_4 => ?_))))
        · rw [if_pos c_4] at hg
          exact z_iinc (pc := 47) hK 3 (lv' := [(3, .int (x3 + 1)), (0, .ref (G.2.2.2 t0)), (1, .int x1), (2, .int x2)]) dX7_countAgainst_47 rfl (zc_n1 _) (by decide) rfl (z_goto (pc := 50) hK 4 dX7_countAgainst_50 (by decide) (zsub (lv' := [(0, .ref (G.2.2.2 t0)), (1, .int x1), (2, .int x2), (3, .int (x3 + 1))]) [1, 2, 3, 0] rfl (ih x1 x2 (x3 + 1) hg)))
        · rw [if_neg c_4] at hg
          exact zsub (lv' := [(0, .ref (G.2.2.2 t0)), (1, .int x1), (2, .int x2), (3, .int x3)]) [0, 1, 2, 3] rfl (b_X7_countAgainst_33 hK ht0 hE ih x1 x2 x3 hg)
set_option maxRecDepth 100000 in
set_option maxHeartbeats 4000000 in
theorem b_X7_countAgainst {K : zK} {G : zG} (hK : zC K G cX7_countAgainst RX7 4 1 21 (some .int)) {h : zH} {t0 : Nat} {x1 : Int32} (ht0 : zT t0 = (6, 0)) {r : Int32} (hE : zE K G (some (.int r)) h) (hg : g_X7_countAgainst h t0 x1 = some r) : zW K G 4 0 [(0, .ref (G.2.2.2 t0)), (1, .int x1)] [] h := by
  rw [g_X7_countAgainst] at hg
  exact z_iconst (pc := 0) hK dX7_countAgainst_0 zc_i0 (z_istore_n (pc := 1) hK (lv' := [(2, .int 0), (0, .ref (G.2.2.2 t0)), (1, .int x1)]) dX7_countAgainst_1 (by decide) rfl (z_iconst (pc := 2) hK dX7_countAgainst_2 zc_i0 (z_istore_n (pc := 3) hK (lv' := [(3, .int 0), (2, .int 0), (0, .ref (G.2.2.2 t0)), (1, .int x1)]) dX7_countAgainst_3 (by decide) rfl (zsub (lv' := [(0, .ref (G.2.2.2 t0)), (1, .int x1), (2, .int 0), (3, .int 0)]) [2, 3, 1, 0] rfl (b_X7_countAgainst_4 hK ht0 hE zfu x1 0 0 hg)))))
theorem m_X7_countAgainst {l : Launch} {G : zG} (hG : zD G) {h : zH} {t0 : Nat} {x1 : Int32} (ht0 : zT t0 = (6, 0)) {r : Int32} (hg : g_X7_countAgainst h t0 x1 = some r) : zM l G yX7_countAgainst cX7_countAgainst 4 (some .int) 1 21 [.ref (G.2.2.2 t0), .int x1] h (some (.int r)) h :=
  zM_of hG pn_X7 (Nat.le_of_ble_eq_true rfl) (fun K _ hK hE => b_X7_countAgainst hK ht0 hE hg)
theorem dX7_castBy_0 : decode cX7_castBy 0 = .ok (.iconst 0, 1) := by decide +kernel
theorem dX7_castBy_1 : decode cX7_castBy 1 = .ok (.istore_n 2, 1) := by decide +kernel
theorem dX7_castBy_2 : decode cX7_castBy 2 = .ok (.iconst 0, 1) := by decide +kernel
theorem dX7_castBy_3 : decode cX7_castBy 3 = .ok (.istore_n 3, 1) := by decide +kernel
theorem dX7_castBy_4 : decode cX7_castBy 4 = .ok (.iload_n 3, 1) := by decide +kernel
theorem dX7_castBy_5 : decode cX7_castBy 5 = .ok (.aload_n 0, 1) := by decide +kernel
theorem dX7_castBy_6 : decode cX7_castBy 6 = .ok (.getfield 21, 3) := by decide +kernel
theorem dX7_castBy_9 : decode cX7_castBy 9 = .ok (.getfield 40, 3) := by decide +kernel
theorem dX7_castBy_12 : decode cX7_castBy 12 = .ok (.if_icmp .ge 23, 3) := by decide +kernel
theorem dX7_castBy_15 : decode cX7_castBy 15 = .ok (.iload_n 2, 1) := by decide +kernel
theorem dX7_castBy_16 : decode cX7_castBy 16 = .ok (.aload_n 0, 1) := by decide +kernel
theorem dX7_castBy_17 : decode cX7_castBy 17 = .ok (.getfield 15, 3) := by decide +kernel
theorem dX7_castBy_20 : decode cX7_castBy 20 = .ok (.iload_n 1, 1) := by decide +kernel
theorem dX7_castBy_21 : decode cX7_castBy 21 = .ok (.bipush 7, 2) := by decide +kernel
theorem dX7_castBy_23 : decode cX7_castBy 23 = .ok (.imul, 1) := by decide +kernel
theorem dX7_castBy_24 : decode cX7_castBy 24 = .ok (.iload_n 3, 1) := by decide +kernel
theorem dX7_castBy_25 : decode cX7_castBy 25 = .ok (.iadd, 1) := by decide +kernel
theorem dX7_castBy_26 : decode cX7_castBy 26 = .ok (.iaload, 1) := by decide +kernel
theorem dX7_castBy_27 : decode cX7_castBy 27 = .ok (.iadd, 1) := by decide +kernel
theorem dX7_castBy_28 : decode cX7_castBy 28 = .ok (.istore_n 2, 1) := by decide +kernel
theorem dX7_castBy_29 : decode cX7_castBy 29 = .ok (.iinc 3 1, 3) := by decide +kernel
theorem dX7_castBy_32 : decode cX7_castBy 32 = .ok (.goto (-28), 3) := by decide +kernel
theorem dX7_castBy_35 : decode cX7_castBy 35 = .ok (.iload_n 2, 1) := by decide +kernel
theorem dX7_castBy_36 : decode cX7_castBy 36 = .ok (.ireturn, 1) := by decide +kernel
def g_X7_castBy_4 (h : zH) (t0 : Nat)  : Nat → Int32 → Int32 → Int32 → Option Int32
  | 0, _, _, _ => none
  | n + 1, x1, x2, x3 => if (h.1 (zR t0 0) 7) ≤ x3 then (some x2) else (zgu (zin ((x1 * 7) + x3) 49) <| zlet (x2 + (h.1 (zR t0 2) (zx ((x1 * 7) + x3)))) fun v_3 => g_X7_castBy_4 h t0 n x1 v_3 (x3 + 1))
def g_X7_castBy (h : zH) (t0 : Nat) (x1 : Int32) : Option Int32 := g_X7_castBy_4 h t0 zfu x1 0 0
set_option maxRecDepth 100000 in
set_option maxHeartbeats 4000000 in
theorem b_X7_castBy_4 {K : zK} {G : zG} (hK : zC K G cX7_castBy RX7 4 0 0 (some .int)) {h : zH} {t0 : Nat} (ht0 : zT t0 = (6, 0)) {r : Int32} (hE : zE K G (some (.int r)) h) : ∀ (n : Nat) (x1 : Int32) (x2 : Int32) (x3 : Int32), g_X7_castBy_4 h t0 n x1 x2 x3 = some r → zW K G 4 4 [(0, .ref (G.2.2.2 t0)), (1, .int x1), (2, .int x2), (3, .int x3)] [] h := by
  intro n
  induction n with
  | zero => intro x1 x2 x3 hg; exact nomatch (show none = some r from hg)
  | succ n ih =>
    intro x1 x2 x3 hg
    rw [g_X7_castBy_4] at hg
    refine z_iload_n (pc := 4) hK 3 dX7_castBy_4 rfl (z_aload_n (pc := 5) hK 0 dX7_castBy_5 rfl (z_getR (pc := 6) hK f_X7_21_6 ht0 dX7_castBy_6 (z_getI (pc := 9) hK f_X7_40_4 (zt_6_0 ht0) dX7_castBy_9 (z_icmp_ge (pc := 12) hK 35 dX7_castBy_12 (by decide) (fun c_1 => ?_) (fun c_1 => ?_)))))
    · rw [if_pos c_1] at hg
      exact z_iload_n (pc := 35) hK 2 dX7_castBy_35 rfl (z_iretP (pc := 36) hK hE hg dX7_castBy_36)
    · rw [if_neg c_1] at hg
      obtain ⟨c_2, hg⟩ := zgu_some hg
      obtain ⟨v_3, ev_3, hg⟩ := zlet_some hg
      exact z_iload_n (pc := 15) hK 2 dX7_castBy_15 rfl (z_aload_n (pc := 16) hK 0 dX7_castBy_16 rfl (z_getR (pc := 17) hK f_X7_15_6 ht0 dX7_castBy_17 (z_iload_n (pc := 20) hK 1 dX7_castBy_20 rfl (z_bipush (pc := 21) hK dX7_castBy_21 zc_b7 (z_imul (pc := 23) hK dX7_castBy_23 (z_iload_n (pc := 24) hK 3 dX7_castBy_24 rfl (z_iadd (pc := 25) hK dX7_castBy_25 (z_iald (pc := 26) hK (zt_6_2 ht0) c_2 dX7_castBy_26 (z_iadd (pc := 27) hK dX7_castBy_27 (z_nameI ev_3 (z_istore_n (pc := 28) hK (lv' := [(2, .int v_3), (0, .ref (G.2.2.2 t0)), (1, .int x1), (3, .int x3)]) dX7_castBy_28 (by decide) rfl (z_iinc (pc := 29) hK 3 (lv' := [(3, .int (x3 + 1)), (2, .int v_3), (0, .ref (G.2.2.2 t0)), (1, .int x1)]) dX7_castBy_29 rfl (zc_n1 _) (by decide) rfl (z_goto (pc := 32) hK 4 dX7_castBy_32 (by decide) (zsub (lv' := [(0, .ref (G.2.2.2 t0)), (1, .int x1), (2, .int v_3), (3, .int (x3 + 1))]) [2, 3, 1, 0] rfl (ih x1 v_3 (x3 + 1) hg)))))))))))))))
set_option maxRecDepth 100000 in
set_option maxHeartbeats 4000000 in
theorem b_X7_castBy {K : zK} {G : zG} (hK : zC K G cX7_castBy RX7 4 0 0 (some .int)) {h : zH} {t0 : Nat} {x1 : Int32} (ht0 : zT t0 = (6, 0)) {r : Int32} (hE : zE K G (some (.int r)) h) (hg : g_X7_castBy h t0 x1 = some r) : zW K G 4 0 [(0, .ref (G.2.2.2 t0)), (1, .int x1)] [] h := by
  rw [g_X7_castBy] at hg
  exact z_iconst (pc := 0) hK dX7_castBy_0 zc_i0 (z_istore_n (pc := 1) hK (lv' := [(2, .int 0), (0, .ref (G.2.2.2 t0)), (1, .int x1)]) dX7_castBy_1 (by decide) rfl (z_iconst (pc := 2) hK dX7_castBy_2 zc_i0 (z_istore_n (pc := 3) hK (lv' := [(3, .int 0), (2, .int 0), (0, .ref (G.2.2.2 t0)), (1, .int x1)]) dX7_castBy_3 (by decide) rfl (zsub (lv' := [(0, .ref (G.2.2.2 t0)), (1, .int x1), (2, .int 0), (3, .int 0)]) [2, 3, 1, 0] rfl (b_X7_castBy_4 hK ht0 hE zfu x1 0 0 hg)))))
theorem m_X7_castBy {l : Launch} {G : zG} (hG : zD G) {h : zH} {t0 : Nat} {x1 : Int32} (ht0 : zT t0 = (6, 0)) {r : Int32} (hg : g_X7_castBy h t0 x1 = some r) : zM l G yX7_castBy cX7_castBy 4 (some .int) 0 0 [.ref (G.2.2.2 t0), .int x1] h (some (.int r)) h :=
  zM_of hG pn_X7 (Nat.le_of_ble_eq_true rfl) (fun K _ hK hE => b_X7_castBy hK ht0 hE hg)
theorem dX7_winsTie_0 : decode cX7_winsTie 0 = .ok (.aload_n 0, 1) := by decide +kernel
theorem dX7_winsTie_1 : decode cX7_winsTie 1 = .ok (.getfield 21, 3) := by decide +kernel
theorem dX7_winsTie_4 : decode cX7_winsTie 4 = .ok (.getfield 75, 3) := by decide +kernel
theorem dX7_winsTie_7 : decode cX7_winsTie 7 = .ok (.iload_n 1, 1) := by decide +kernel
theorem dX7_winsTie_8 : decode cX7_winsTie 8 = .ok (.iaload, 1) := by decide +kernel
theorem dX7_winsTie_9 : decode cX7_winsTie 9 = .ok (.aload_n 0, 1) := by decide +kernel
theorem dX7_winsTie_10 : decode cX7_winsTie 10 = .ok (.getfield 21, 3) := by decide +kernel
theorem dX7_winsTie_13 : decode cX7_winsTie 13 = .ok (.getfield 75, 3) := by decide +kernel
theorem dX7_winsTie_16 : decode cX7_winsTie 16 = .ok (.iload_n 2, 1) := by decide +kernel
theorem dX7_winsTie_17 : decode cX7_winsTie 17 = .ok (.iaload, 1) := by decide +kernel
theorem dX7_winsTie_18 : decode cX7_winsTie 18 = .ok (.isub, 1) := by decide +kernel
theorem dX7_winsTie_19 : decode cX7_winsTie 19 = .ok (.istore_n 3, 1) := by decide +kernel
theorem dX7_winsTie_20 : decode cX7_winsTie 20 = .ok (.iload_n 3, 1) := by decide +kernel
theorem dX7_winsTie_21 : decode cX7_winsTie 21 = .ok (.ifCond .ne 14, 3) := by decide +kernel
theorem dX7_winsTie_24 : decode cX7_winsTie 24 = .ok (.iload_n 1, 1) := by decide +kernel
theorem dX7_winsTie_25 : decode cX7_winsTie 25 = .ok (.iload_n 2, 1) := by decide +kernel
theorem dX7_winsTie_26 : decode cX7_winsTie 26 = .ok (.if_icmp .ge 7, 3) := by decide +kernel
theorem dX7_winsTie_29 : decode cX7_winsTie 29 = .ok (.iconst 1, 1) := by decide +kernel
theorem dX7_winsTie_30 : decode cX7_winsTie 30 = .ok (.goto 4, 3) := by decide +kernel
theorem dX7_winsTie_33 : decode cX7_winsTie 33 = .ok (.iconst 0, 1) := by decide +kernel
theorem dX7_winsTie_34 : decode cX7_winsTie 34 = .ok (.ireturn, 1) := by decide +kernel
theorem dX7_winsTie_35 : decode cX7_winsTie 35 = .ok (.aload_n 0, 1) := by decide +kernel
theorem dX7_winsTie_36 : decode cX7_winsTie 36 = .ok (.getfield 21, 3) := by decide +kernel
theorem dX7_winsTie_39 : decode cX7_winsTie 39 = .ok (.getfield 78, 3) := by decide +kernel
theorem dX7_winsTie_42 : decode cX7_winsTie 42 = .ok (.ifCond .eq 15, 3) := by decide +kernel
theorem dX7_winsTie_45 : decode cX7_winsTie 45 = .ok (.iload_n 3, 1) := by decide +kernel
theorem dX7_winsTie_46 : decode cX7_winsTie 46 = .ok (.ifCond .ge 7, 3) := by decide +kernel
theorem dX7_winsTie_49 : decode cX7_winsTie 49 = .ok (.iconst 1, 1) := by decide +kernel
theorem dX7_winsTie_50 : decode cX7_winsTie 50 = .ok (.goto 16, 3) := by decide +kernel
theorem dX7_winsTie_53 : decode cX7_winsTie 53 = .ok (.iconst 0, 1) := by decide +kernel
theorem dX7_winsTie_54 : decode cX7_winsTie 54 = .ok (.goto 12, 3) := by decide +kernel
theorem dX7_winsTie_57 : decode cX7_winsTie 57 = .ok (.iload_n 3, 1) := by decide +kernel
theorem dX7_winsTie_58 : decode cX7_winsTie 58 = .ok (.ifCond .le 7, 3) := by decide +kernel
theorem dX7_winsTie_61 : decode cX7_winsTie 61 = .ok (.iconst 1, 1) := by decide +kernel
theorem dX7_winsTie_62 : decode cX7_winsTie 62 = .ok (.goto 4, 3) := by decide +kernel
theorem dX7_winsTie_65 : decode cX7_winsTie 65 = .ok (.iconst 0, 1) := by decide +kernel
theorem dX7_winsTie_66 : decode cX7_winsTie 66 = .ok (.ireturn, 1) := by decide +kernel
def g_X7_winsTie (h : zH) (t0 : Nat) (x1 : Int32) (x2 : Int32) : Option Bool := zgu (zin x1 7) <| zgu (zin x2 7) <| zlet ((h.1 (zR (zR t0 0) 2) (zx x1)) - (h.1 (zR (zR t0 0) 2) (zx x2))) fun v_3 => if v_3 = 0 then (if x2 ≤ x1 then (some false) else (some true)) else (if (h.1 (zR t0 0) 10) = 0 then (if v_3 ≤ 0 then (some false) else (some true)) else (if 0 ≤ v_3 then (some false) else (some true)))
set_option maxRecDepth 100000 in
set_option maxHeartbeats 4000000 in
theorem b_X7_winsTie {K : zK} {G : zG} (hK : zC K G cX7_winsTie RX7 4 0 0 (some .boolean)) {h : zH} {t0 : Nat} {x1 : Int32} {x2 : Int32} (ht0 : zT t0 = (6, 0)) {r : Bool} (hE : zE K G (some (.int (zb r))) h) (hg : g_X7_winsTie h t0 x1 x2 = some r) : zW K G 4 0 [(0, .ref (G.2.2.2 t0)), (1, .int x1), (2, .int x2)] [] h := by
  rw [g_X7_winsTie] at hg
  obtain ⟨c_1, hg⟩ := zgu_some hg
  obtain ⟨c_2, hg⟩ := zgu_some hg
  obtain ⟨v_3, ev_3, hg⟩ := zlet_some hg
  refine z_aload_n (pc := 0) hK 0 dX7_winsTie_0 rfl (z_getR (pc := 1) hK f_X7_21_6 ht0 dX7_winsTie_1 (z_getR (pc := 4) hK f_X7_75_4 (zt_6_0 ht0) dX7_winsTie_4 (z_iload_n (pc := 7) hK 1 dX7_winsTie_7 rfl (z_iald (pc := 8) hK (zt_4_2 (zt_6_0 ht0)) c_1 dX7_winsTie_8 (z_aload_n (pc := 9) hK 0 dX7_winsTie_9 rfl (z_getR (pc := 10) hK f_X7_21_6 ht0 dX7_winsTie_10 (z_getR (pc := 13) hK f_X7_75_4 (zt_6_0 ht0) dX7_winsTie_13 (z_iload_n (pc := 16) hK 2 dX7_winsTie_16 rfl (z_iald (pc := 17) hK (zt_4_2 (zt_6_0 ht0)) c_2 dX7_winsTie_17 (z_isub (pc := 18) hK dX7_winsTie_18 (z_nameI ev_3 (z_istore_n (pc := 19) hK (lv' := [(3, .int v_3), (0, .ref (G.2.2.2 t0)), (1, .int x1), (2, .int x2)]) dX7_winsTie_19 (by decide) rfl (z_iload_n (pc := 20) hK 0 dX7_winsTie_20 rfl (z_if_ne (pc := 21) hK 35 dX7_winsTie_21 (by decide) (fun c_4 => ?_) (fun c_4 => ?_)))))))))))))))
  · rw [if_neg c_4] at hg
    refine z_aload_n (pc := 35) hK 1 dX7_winsTie_35 rfl (z_getR (pc := 36) hK f_X7_21_6 ht0 dX7_winsTie_36 (z_getI (pc := 39) hK f_X7_78_4 (zt_6_0 ht0) dX7_winsTie_39 (z_if_eq (pc := 42) hK 57 dX7_winsTie_42 (by decide) (fun c_5 => ?_) (fun c_5 => ?_))))
    · rw [if_pos c_5] at hg
      refine z_iload_n (pc := 57) hK 0 dX7_winsTie_57 rfl (z_if_le (pc := 58) hK 65 dX7_winsTie_58 (by decide) (fun c_6 => ?_) (fun c_6 => ?_))
      · rw [if_pos c_6] at hg
        exact z_iconst (pc := 65) hK dX7_winsTie_65 zc_i0 (z_zretP (pc := 66) hK rfl hE hg dX7_winsTie_66)
      · rw [if_neg c_6] at hg
        exact z_iconst (pc := 61) hK dX7_winsTie_61 zc_i1 (z_goto (pc := 62) hK 66 dX7_winsTie_62 (by decide) (z_zretP (pc := 66) hK rfl hE hg dX7_winsTie_66))
    · rw [if_neg c_5] at hg
      refine z_iload_n (pc := 45) hK 0 dX7_winsTie_45 rfl (z_if_ge (pc := 46) hK 53 dX7_winsTie_46 (by decide) (fun c_7 => ?_) (fun c_7 => ?_))
      · rw [if_pos c_7] at hg
        exact z_iconst (pc := 53) hK dX7_winsTie_53 zc_i0 (z_goto (pc := 54) hK 66 dX7_winsTie_54 (by decide) (z_zretP (pc := 66) hK rfl hE hg dX7_winsTie_66))
      · rw [if_neg c_7] at hg
        exact z_iconst (pc := 49) hK dX7_winsTie_49 zc_i1 (z_goto (pc := 50) hK 66 dX7_winsTie_50 (by decide) (z_zretP (pc := 66) hK rfl hE hg dX7_winsTie_66))
  · rw [if_pos c_4] at hg
    refine z_iload_n (pc := 24) hK 2 dX7_winsTie_24 rfl (z_iload_n (pc := 25) hK 3 dX7_winsTie_25 rfl (z_icmp_ge (pc := 26) hK 33 dX7_winsTie_26 (by decide) (fun c_8 => ?_) (fun c_8 => ?_)))
    · rw [if_pos c_8] at hg
      exact z_iconst (pc := 33) hK dX7_winsTie_33 zc_i0 (z_zretP (pc := 34) hK rfl hE hg dX7_winsTie_34)
    · rw [if_neg c_8] at hg
      exact z_iconst (pc := 29) hK dX7_winsTie_29 zc_i1 (z_goto (pc := 30) hK 34 dX7_winsTie_30 (by decide) (z_zretP (pc := 34) hK rfl hE hg dX7_winsTie_34))
theorem m_X7_winsTie {l : Launch} {G : zG} (hG : zD G) {h : zH} {t0 : Nat} {x1 : Int32} {x2 : Int32} (ht0 : zT t0 = (6, 0)) {r : Bool} (hg : g_X7_winsTie h t0 x1 x2 = some r) : zM l G yX7_winsTie cX7_winsTie 4 (some .boolean) 0 0 [.ref (G.2.2.2 t0), .int x1, .int x2] h (some (.int (zb r))) h :=
  zM_of hG pn_X7 (Nat.le_of_ble_eq_true rfl) (fun K _ hK hE => b_X7_winsTie hK ht0 hE hg)
theorem dX7_lead_0 : decode cX7_lead 0 = .ok (.aload_n 0, 1) := by decide +kernel
theorem dX7_lead_1 : decode cX7_lead 1 = .ok (.iload_n 2, 1) := by decide +kernel
theorem dX7_lead_2 : decode cX7_lead 2 = .ok (.invokevirtual 67, 3) := by decide +kernel
theorem dX7_lead_5 : decode cX7_lead 5 = .ok (.aload_n 0, 1) := by decide +kernel
theorem dX7_lead_6 : decode cX7_lead 6 = .ok (.iload_n 1, 1) := by decide +kernel
theorem dX7_lead_7 : decode cX7_lead 7 = .ok (.invokevirtual 67, 3) := by decide +kernel
theorem dX7_lead_10 : decode cX7_lead 10 = .ok (.isub, 1) := by decide +kernel
theorem dX7_lead_11 : decode cX7_lead 11 = .ok (.istore_n 3, 1) := by decide +kernel
theorem dX7_lead_12 : decode cX7_lead 12 = .ok (.aload_n 0, 1) := by decide +kernel
theorem dX7_lead_13 : decode cX7_lead 13 = .ok (.iload_n 1, 1) := by decide +kernel
theorem dX7_lead_14 : decode cX7_lead 14 = .ok (.iload_n 2, 1) := by decide +kernel
theorem dX7_lead_15 : decode cX7_lead 15 = .ok (.invokevirtual 71, 3) := by decide +kernel
theorem dX7_lead_18 : decode cX7_lead 18 = .ok (.ifCond .eq 7, 3) := by decide +kernel
theorem dX7_lead_21 : decode cX7_lead 21 = .ok (.iload_n 3, 1) := by decide +kernel
theorem dX7_lead_22 : decode cX7_lead 22 = .ok (.goto 6, 3) := by decide +kernel
theorem dX7_lead_25 : decode cX7_lead 25 = .ok (.iload_n 3, 1) := by decide +kernel
theorem dX7_lead_26 : decode cX7_lead 26 = .ok (.iconst 1, 1) := by decide +kernel
theorem dX7_lead_27 : decode cX7_lead 27 = .ok (.isub, 1) := by decide +kernel
theorem dX7_lead_28 : decode cX7_lead 28 = .ok (.ireturn, 1) := by decide +kernel
def g_X7_lead (h : zH) (t0 : Nat) (x1 : Int32) (x2 : Int32) : Option Int32 := (g_X7_countAgainst h t0 x2).bind fun v_1 => (g_X7_countAgainst h t0 x1).bind fun v_2 => (g_X7_winsTie h t0 x1 x2).bind fun v_3 => if (zb v_3) = 0 then (some ((v_1 - v_2) - 1)) else (some (v_1 - v_2))
set_option maxRecDepth 100000 in
set_option maxHeartbeats 4000000 in
theorem b_X7_lead {K : zK} {G : zG} (hK : zC K G cX7_lead RX7 4 2 44 (some .int)) {h : zH} {t0 : Nat} {x1 : Int32} {x2 : Int32} (ht0 : zT t0 = (6, 0)) {r : Int32} (hE : zE K G (some (.int r)) h) (hg : g_X7_lead h t0 x1 x2 = some r) : zW K G 4 0 [(0, .ref (G.2.2.2 t0)), (1, .int x1), (2, .int x2)] [] h := by
  rw [g_X7_lead] at hg
  obtain ⟨v_1, qv_1, hg⟩ := zbind_some hg
  obtain ⟨v_2, qv_2, hg⟩ := zbind_some hg
  obtain ⟨v_3, qv_3, hg⟩ := zbind_some hg
  refine z_aload_n (pc := 0) hK 0 dX7_lead_0 rfl (z_iload_n (pc := 1) hK 2 dX7_lead_1 rfl (z_callVi (pc := 2) hK [.int x2] (m_X7_countAgainst (zC_D hK) ht0 qv_1) sv_X7_countAgainst q_917 ht0 rfl [] rfl (Nat.le_of_ble_eq_true rfl) ⟨by decide, by decide⟩ dX7_lead_2 (z_aload_n (pc := 5) hK 0 dX7_lead_5 rfl (z_iload_n (pc := 6) hK 1 dX7_lead_6 rfl (z_callVi (pc := 7) hK [.int x1] (m_X7_countAgainst (zC_D hK) ht0 qv_2) sv_X7_countAgainst q_917 ht0 rfl [.int v_1] rfl (Nat.le_of_ble_eq_true rfl) ⟨by decide, by decide⟩ dX7_lead_7 (z_isub (pc := 10) hK dX7_lead_10 (z_istore_n (pc := 11) hK (lv' := [(3, .int (v_1 - v_2)), (0, .ref (G.2.2.2 t0)), (1, .int x1), (2, .int x2)]) dX7_lead_11 (by decide) rfl (z_aload_n (pc := 12) hK 1 dX7_lead_12 rfl (z_iload_n (pc := 13) hK 2 dX7_lead_13 rfl (z_iload_n (pc := 14) hK 3 dX7_lead_14 rfl (z_callVi (pc := 15) hK [.int x1, .int x2] (m_X7_winsTie (zC_D hK) ht0 qv_3) sv_X7_winsTie q_918 ht0 rfl [] rfl (Nat.le_of_ble_eq_true rfl) ⟨by decide, by decide⟩ dX7_lead_15 (z_if_eq (pc := 18) hK 25 dX7_lead_18 (by decide) (fun c_4 => ?_) (fun c_4 => ?_)))))))))))))
  · rw [if_pos c_4] at hg
    exact z_iload_n (pc := 25) hK 0 dX7_lead_25 rfl (z_iconst (pc := 26) hK dX7_lead_26 zc_i1 (z_isub (pc := 27) hK dX7_lead_27 (z_iretP (pc := 28) hK hE hg dX7_lead_28)))
  · rw [if_neg c_4] at hg
    exact z_iload_n (pc := 21) hK 0 dX7_lead_21 rfl (z_goto (pc := 22) hK 28 dX7_lead_22 (by decide) (z_iretP (pc := 28) hK hE hg dX7_lead_28))
theorem m_X7_lead {l : Launch} {G : zG} (hG : zD G) {h : zH} {t0 : Nat} {x1 : Int32} {x2 : Int32} (ht0 : zT t0 = (6, 0)) {r : Int32} (hg : g_X7_lead h t0 x1 x2 = some r) : zM l G yX7_lead cX7_lead 4 (some .int) 2 44 [.ref (G.2.2.2 t0), .int x1, .int x2] h (some (.int r)) h :=
  zM_of hG pn_X7 (Nat.le_of_ble_eq_true rfl) (fun K _ hK hE => b_X7_lead hK ht0 hE hg)
theorem dX7_governor_0 : decode cX7_governor 0 = .ok (.iconst (-1), 1) := by decide +kernel
theorem dX7_governor_1 : decode cX7_governor 1 = .ok (.istore_n 1, 1) := by decide +kernel
theorem dX7_governor_2 : decode cX7_governor 2 = .ok (.iconst 0, 1) := by decide +kernel
theorem dX7_governor_3 : decode cX7_governor 3 = .ok (.istore_n 2, 1) := by decide +kernel
theorem dX7_governor_4 : decode cX7_governor 4 = .ok (.iload_n 2, 1) := by decide +kernel
theorem dX7_governor_5 : decode cX7_governor 5 = .ok (.aload_n 0, 1) := by decide +kernel
theorem dX7_governor_6 : decode cX7_governor 6 = .ok (.getfield 21, 3) := by decide +kernel
theorem dX7_governor_9 : decode cX7_governor 9 = .ok (.getfield 40, 3) := by decide +kernel
theorem dX7_governor_12 : decode cX7_governor 12 = .ok (.if_icmp .ge 33, 3) := by decide +kernel
theorem dX7_governor_15 : decode cX7_governor 15 = .ok (.aload_n 0, 1) := by decide +kernel
theorem dX7_governor_16 : decode cX7_governor 16 = .ok (.iload_n 2, 1) := by decide +kernel
theorem dX7_governor_17 : decode cX7_governor 17 = .ok (.invokevirtual 60, 3) := by decide +kernel
theorem dX7_governor_20 : decode cX7_governor 20 = .ok (.ifCond .eq 19, 3) := by decide +kernel
theorem dX7_governor_23 : decode cX7_governor 23 = .ok (.iload_n 1, 1) := by decide +kernel
theorem dX7_governor_24 : decode cX7_governor 24 = .ok (.iconst (-1), 1) := by decide +kernel
theorem dX7_governor_25 : decode cX7_governor 25 = .ok (.if_icmp .eq 12, 3) := by decide +kernel
theorem dX7_governor_28 : decode cX7_governor 28 = .ok (.aload_n 0, 1) := by decide +kernel
theorem dX7_governor_29 : decode cX7_governor 29 = .ok (.iload_n 2, 1) := by decide +kernel
theorem dX7_governor_30 : decode cX7_governor 30 = .ok (.iload_n 1, 1) := by decide +kernel
theorem dX7_governor_31 : decode cX7_governor 31 = .ok (.invokevirtual 64, 3) := by decide +kernel
theorem dX7_governor_34 : decode cX7_governor 34 = .ok (.ifCond .lt 5, 3) := by decide +kernel
theorem dX7_governor_37 : decode cX7_governor 37 = .ok (.iload_n 2, 1) := by decide +kernel
theorem dX7_governor_38 : decode cX7_governor 38 = .ok (.istore_n 1, 1) := by decide +kernel
theorem dX7_governor_39 : decode cX7_governor 39 = .ok (.iinc 2 1, 3) := by decide +kernel
theorem dX7_governor_42 : decode cX7_governor 42 = .ok (.goto (-38), 3) := by decide +kernel
theorem dX7_governor_45 : decode cX7_governor 45 = .ok (.iload_n 1, 1) := by decide +kernel
theorem dX7_governor_46 : decode cX7_governor 46 = .ok (.ireturn, 1) := by decide +kernel
def g_X7_governor_4 (h : zH) (t0 : Nat)  : Nat → Int32 → Int32 → Option Int32
  | 0, _, _ => none
  | n + 1, x1, x2 => if (h.1 (zR t0 0) 7) ≤ x2 then (some x1) else ((g_X7_isAlive h t0 x2).bind fun v_2 => if (zb v_2) = 0 then (g_X7_governor_4 h t0 n x1 (x2 + 1)) else (if x1 = (-1) then (g_X7_governor_4 h t0 n x2 (x2 + 1)) else ((g_X7_lead h t0 x2 x1).bind fun v_5 => if v_5 < 0 then (g_X7_governor_4 h t0 n x1 (x2 + 1)) else (g_X7_governor_4 h t0 n x2 (x2 + 1)))))
def g_X7_governor (h : zH) (t0 : Nat) : Option Int32 := g_X7_governor_4 h t0 zfu (-1) 0
set_option maxRecDepth 100000 in
set_option maxHeartbeats 4000000 in
theorem b_X7_governor_4 {K : zK} {G : zG} (hK : zC K G cX7_governor RX7 3 3 67 (some .int)) {h : zH} {t0 : Nat} (ht0 : zT t0 = (6, 0)) {r : Int32} (hE : zE K G (some (.int r)) h) : ∀ (n : Nat) (x1 : Int32) (x2 : Int32), g_X7_governor_4 h t0 n x1 x2 = some r → zW K G 3 4 [(0, .ref (G.2.2.2 t0)), (1, .int x1), (2, .int x2)] [] h := by
  intro n
  induction n with
  | zero => intro x1 x2 hg; exact nomatch (show none = some r from hg)
  | succ n ih =>
    intro x1 x2 hg
    rw [g_X7_governor_4] at hg
    refine z_iload_n (pc := 4) hK 2 dX7_governor_4 rfl (z_aload_n (pc := 5) hK 0 dX7_governor_5 rfl (z_getR (pc := 6) hK f_X7_21_6 ht0 dX7_governor_6 (z_getI (pc := 9) hK f_X7_40_4 (zt_6_0 ht0) dX7_governor_9 (z_icmp_ge (pc := 12) hK 45 dX7_governor_12 (by decide) (fun c_1 => ?_) (fun c_1 => ?_)))))
    · rw [if_pos c_1] at hg
      exact z_iload_n (pc := 45) hK 1 dX7_governor_45 rfl (z_iretP (pc := 46) hK hE hg dX7_governor_46)
    · rw [if_neg c_1] at hg
      obtain ⟨v_2, qv_2, hg⟩ := zbind_some hg
      refine z_aload_n (pc := 15) hK 0 dX7_governor_15 rfl (z_iload_n (pc := 16) hK 2 dX7_governor_16 rfl (z_callVi (pc := 17) hK [.int x2] (m_X7_isAlive (zC_D hK) ht0 qv_2) sv_X7_isAlive q_883 ht0 rfl [] rfl (Nat.le_of_ble_eq_true rfl) ⟨by decide, by decide⟩ dX7_governor_17 (z_if_eq (pc := 20) hK 39 dX7_governor_20 (by decide) (fun c_3 => ?_) (fun c_3 => ?_))))
      · rw [if_pos c_3] at hg
        exact z_iinc (pc := 39) hK 2 (lv' := [(2, .int (x2 + 1)), (0, .ref (G.2.2.2 t0)), (1, .int x1)]) dX7_governor_39 rfl (zc_n1 _) (by decide) rfl (z_goto (pc := 42) hK 4 dX7_governor_42 (by decide) (zsub (lv' := [(0, .ref (G.2.2.2 t0)), (1, .int x1), (2, .int (x2 + 1))]) [1, 2, 0] rfl (ih x1 (x2 + 1) hg)))
      · rw [if_neg c_3] at hg
        refine z_iload_n (pc := 23) hK 1 dX7_governor_23 rfl (z_iconst (pc := 24) hK dX7_governor_24 zc_im1 (z_icmp_eq (pc := 25) hK 37 dX7_governor_25 (by decide) (fun c_4 => ?_) (fun c_4 => ?_)))
        · rw [if_pos c_4] at hg
          exact z_iload_n (pc := 37) hK 2 dX7_governor_37 rfl (z_istore_n (pc := 38) hK (lv' := [(1, .int x2), (0, .ref (G.2.2.2 t0)), (2, .int x2)]) dX7_governor_38 (by decide) rfl (z_iinc (pc := 39) hK 2 (lv' := [(2, .int (x2 + 1)), (1, .int x2), (0, .ref (G.2.2.2 t0))]) dX7_governor_39 rfl (zc_n1 _) (by decide) rfl (z_goto (pc := 42) hK 4 dX7_governor_42 (by decide) (zsub (lv' := [(0, .ref (G.2.2.2 t0)), (1, .int x2), (2, .int (x2 + 1))]) [2, 1, 0] rfl (ih x2 (x2 + 1) hg)))))
        · rw [if_neg c_4] at hg
          obtain ⟨v_5, qv_5, hg⟩ := zbind_some hg
          refine z_aload_n (pc := 28) hK 0 dX7_governor_28 rfl (z_iload_n (pc := 29) hK 2 dX7_governor_29 rfl (z_iload_n (pc := 30) hK 1 dX7_governor_30 rfl (z_callVi (pc := 31) hK [.int x2, .int x1] (m_X7_lead (zC_D hK) ht0 qv_5) sv_X7_lead q_913 ht0 rfl [] rfl (Nat.le_of_ble_eq_true rfl) ⟨by decide, by decide⟩ dX7_governor_31 (z_if_lt (pc := 34) hK 39 dX7_governor_34 (by decide) (fun c_6 => ?_) (fun c_6 => ?_)))))
          · rw [if_pos c_6] at hg
            exact z_iinc (pc := 39) hK 2 (lv' := [(2, .int (x2 + 1)), (0, .ref (G.2.2.2 t0)), (1, .int x1)]) dX7_governor_39 rfl (zc_n1 _) (by decide) rfl (z_goto (pc := 42) hK 4 dX7_governor_42 (by decide) (zsub (lv' := [(0, .ref (G.2.2.2 t0)), (1, .int x1), (2, .int (x2 + 1))]) [1, 2, 0] rfl (ih x1 (x2 + 1) hg)))
          · rw [if_neg c_6] at hg
            exact z_iload_n (pc := 37) hK 2 dX7_governor_37 rfl (z_istore_n (pc := 38) hK (lv' := [(1, .int x2), (0, .ref (G.2.2.2 t0)), (2, .int x2)]) dX7_governor_38 (by decide) rfl (z_iinc (pc := 39) hK 2 (lv' := [(2, .int (x2 + 1)), (1, .int x2), (0, .ref (G.2.2.2 t0))]) dX7_governor_39 rfl (zc_n1 _) (by decide) rfl (z_goto (pc := 42) hK 4 dX7_governor_42 (by decide) (zsub (lv' := [(0, .ref (G.2.2.2 t0)), (1, .int x2), (2, .int (x2 + 1))]) [2, 1, 0] rfl (ih x2 (x2 + 1) hg)))))
set_option maxRecDepth 100000 in
set_option maxHeartbeats 4000000 in
theorem b_X7_governor {K : zK} {G : zG} (hK : zC K G cX7_governor RX7 3 3 67 (some .int)) {h : zH} {t0 : Nat} (ht0 : zT t0 = (6, 0)) {r : Int32} (hE : zE K G (some (.int r)) h) (hg : g_X7_governor h t0 = some r) : zW K G 3 0 [(0, .ref (G.2.2.2 t0))] [] h := by
  rw [g_X7_governor] at hg
  exact z_iconst (pc := 0) hK dX7_governor_0 zc_im1 (z_istore_n (pc := 1) hK (lv' := [(1, .int (-1)), (0, .ref (G.2.2.2 t0))]) dX7_governor_1 (by decide) rfl (z_iconst (pc := 2) hK dX7_governor_2 zc_i0 (z_istore_n (pc := 3) hK (lv' := [(2, .int 0), (1, .int (-1)), (0, .ref (G.2.2.2 t0))]) dX7_governor_3 (by decide) rfl (zsub (lv' := [(0, .ref (G.2.2.2 t0)), (1, .int (-1)), (2, .int 0)]) [2, 1, 0] rfl (b_X7_governor_4 hK ht0 hE zfu (-1) 0 hg)))))
theorem m_X7_governor {l : Launch} {G : zG} (hG : zD G) {h : zH} {t0 : Nat} (ht0 : zT t0 = (6, 0)) {r : Int32} (hg : g_X7_governor h t0 = some r) : zM l G yX7_governor cX7_governor 3 (some .int) 3 67 [.ref (G.2.2.2 t0)] h (some (.int r)) h :=
  zM_of hG pn_X7 (Nat.le_of_ble_eq_true rfl) (fun K _ hK hE => b_X7_governor hK ht0 hE hg)
theorem dX7_canLevy_0 : decode cX7_canLevy 0 = .ok (.aload_n 0, 1) := by decide +kernel
theorem dX7_canLevy_1 : decode cX7_canLevy 1 = .ok (.invokevirtual 81, 3) := by decide +kernel
theorem dX7_canLevy_4 : decode cX7_canLevy 4 = .ok (.istore_n 1, 1) := by decide +kernel
theorem dX7_canLevy_5 : decode cX7_canLevy 5 = .ok (.iload_n 1, 1) := by decide +kernel
theorem dX7_canLevy_6 : decode cX7_canLevy 6 = .ok (.iconst (-1), 1) := by decide +kernel
theorem dX7_canLevy_7 : decode cX7_canLevy 7 = .ok (.if_icmp .eq 20, 3) := by decide +kernel
theorem dX7_canLevy_10 : decode cX7_canLevy 10 = .ok (.aload_n 0, 1) := by decide +kernel
theorem dX7_canLevy_11 : decode cX7_canLevy 11 = .ok (.getfield 21, 3) := by decide +kernel
theorem dX7_canLevy_14 : decode cX7_canLevy 14 = .ok (.getfield 85, 3) := by decide +kernel
theorem dX7_canLevy_17 : decode cX7_canLevy 17 = .ok (.iload_n 1, 1) := by decide +kernel
theorem dX7_canLevy_18 : decode cX7_canLevy 18 = .ok (.iaload, 1) := by decide +kernel
theorem dX7_canLevy_19 : decode cX7_canLevy 19 = .ok (.iconst 3, 1) := by decide +kernel
theorem dX7_canLevy_20 : decode cX7_canLevy 20 = .ok (.if_icmp .eq 7, 3) := by decide +kernel
theorem dX7_canLevy_23 : decode cX7_canLevy 23 = .ok (.iconst 1, 1) := by decide +kernel
theorem dX7_canLevy_24 : decode cX7_canLevy 24 = .ok (.goto 4, 3) := by decide +kernel
theorem dX7_canLevy_27 : decode cX7_canLevy 27 = .ok (.iconst 0, 1) := by decide +kernel
theorem dX7_canLevy_28 : decode cX7_canLevy 28 = .ok (.ireturn, 1) := by decide +kernel
def g_X7_canLevy (h : zH) (t0 : Nat) : Option Bool := (g_X7_governor h t0).bind fun v_1 => if v_1 = (-1) then (some false) else (zgu (zin v_1 7) <| if (h.1 (zR (zR t0 0) 1) (zx v_1)) = 3 then (some false) else (some true))
set_option maxRecDepth 100000 in
set_option maxHeartbeats 4000000 in
theorem b_X7_canLevy {K : zK} {G : zG} (hK : zC K G cX7_canLevy RX7 2 4 89 (some .boolean)) {h : zH} {t0 : Nat} (ht0 : zT t0 = (6, 0)) {r : Bool} (hE : zE K G (some (.int (zb r))) h) (hg : g_X7_canLevy h t0 = some r) : zW K G 2 0 [(0, .ref (G.2.2.2 t0))] [] h := by
  rw [g_X7_canLevy] at hg
  obtain ⟨v_1, qv_1, hg⟩ := zbind_some hg
  refine z_aload_n (pc := 0) hK 0 dX7_canLevy_0 rfl (z_callVi (pc := 1) hK [] (m_X7_governor (zC_D hK) ht0 qv_1) sv_X7_governor q_930 ht0 rfl [] rfl (Nat.le_of_ble_eq_true rfl) ⟨by decide, by decide⟩ dX7_canLevy_1 (z_istore_n (pc := 4) hK (lv' := [(1, .int v_1), (0, .ref (G.2.2.2 t0))]) dX7_canLevy_4 (by decide) rfl (z_iload_n (pc := 5) hK 0 dX7_canLevy_5 rfl (z_iconst (pc := 6) hK dX7_canLevy_6 zc_im1 (z_icmp_eq (pc := 7) hK 27 dX7_canLevy_7 (by decide) (fun c_2 => ?_) (fun c_2 => ?_))))))
  · rw [if_pos c_2] at hg
    exact z_iconst (pc := 27) hK dX7_canLevy_27 zc_i0 (z_zretP (pc := 28) hK rfl hE hg dX7_canLevy_28)
  · rw [if_neg c_2] at hg
    obtain ⟨c_3, hg⟩ := zgu_some hg
    refine z_aload_n (pc := 10) hK 1 dX7_canLevy_10 rfl (z_getR (pc := 11) hK f_X7_21_6 ht0 dX7_canLevy_11 (z_getR (pc := 14) hK f_X7_85_4 (zt_6_0 ht0) dX7_canLevy_14 (z_iload_n (pc := 17) hK 0 dX7_canLevy_17 rfl (z_iald (pc := 18) hK (zt_4_1 (zt_6_0 ht0)) c_3 dX7_canLevy_18 (z_iconst (pc := 19) hK dX7_canLevy_19 zc_i3 (z_icmp_eq (pc := 20) hK 27 dX7_canLevy_20 (by decide) (fun c_4 => ?_) (fun c_4 => ?_)))))))
    · rw [if_pos c_4] at hg
      exact z_iconst (pc := 27) hK dX7_canLevy_27 zc_i0 (z_zretP (pc := 28) hK rfl hE hg dX7_canLevy_28)
    · rw [if_neg c_4] at hg
      exact z_iconst (pc := 23) hK dX7_canLevy_23 zc_i1 (z_goto (pc := 24) hK 28 dX7_canLevy_24 (by decide) (z_zretP (pc := 28) hK rfl hE hg dX7_canLevy_28))
theorem m_X7_canLevy {l : Launch} {G : zG} (hG : zD G) {h : zH} {t0 : Nat} (ht0 : zT t0 = (6, 0)) {r : Bool} (hg : g_X7_canLevy h t0 = some r) : zM l G yX7_canLevy cX7_canLevy 2 (some .boolean) 4 89 [.ref (G.2.2.2 t0)] h (some (.int (zb r))) h :=
  zM_of hG pn_X7 (Nat.le_of_ble_eq_true rfl) (fun K _ hK hE => b_X7_canLevy hK ht0 hE hg)
theorem dX7_tellFacts_0 : decode cX7_tellFacts 0 = .ok (.aload_n 0, 1) := by decide +kernel
theorem dX7_tellFacts_1 : decode cX7_tellFacts 1 = .ok (.getfield 21, 3) := by decide +kernel
theorem dX7_tellFacts_4 : decode cX7_tellFacts 4 = .ok (.getfield 92, 3) := by decide +kernel
theorem dX7_tellFacts_7 : decode cX7_tellFacts 7 = .ok (.aload_n 0, 1) := by decide +kernel
theorem dX7_tellFacts_8 : decode cX7_tellFacts 8 = .ok (.getfield 9, 3) := by decide +kernel
theorem dX7_tellFacts_11 : decode cX7_tellFacts 11 = .ok (.iload_n 1, 1) := by decide +kernel
theorem dX7_tellFacts_12 : decode cX7_tellFacts 12 = .ok (.bipush 7, 2) := by decide +kernel
theorem dX7_tellFacts_14 : decode cX7_tellFacts 14 = .ok (.imul, 1) := by decide +kernel
theorem dX7_tellFacts_15 : decode cX7_tellFacts 15 = .ok (.iload_n 2, 1) := by decide +kernel
theorem dX7_tellFacts_16 : decode cX7_tellFacts 16 = .ok (.iadd, 1) := by decide +kernel
theorem dX7_tellFacts_17 : decode cX7_tellFacts 17 = .ok (.iaload, 1) := by decide +kernel
theorem dX7_tellFacts_18 : decode cX7_tellFacts 18 = .ok (.aload_n 0, 1) := by decide +kernel
theorem dX7_tellFacts_19 : decode cX7_tellFacts 19 = .ok (.getfield 21, 3) := by decide +kernel
theorem dX7_tellFacts_22 : decode cX7_tellFacts 22 = .ok (.getfield 104, 3) := by decide +kernel
theorem dX7_tellFacts_25 : decode cX7_tellFacts 25 = .ok (.iload_n 1, 1) := by decide +kernel
theorem dX7_tellFacts_26 : decode cX7_tellFacts 26 = .ok (.iaload, 1) := by decide +kernel
theorem dX7_tellFacts_27 : decode cX7_tellFacts 27 = .ok (.aload_n 0, 1) := by decide +kernel
theorem dX7_tellFacts_28 : decode cX7_tellFacts 28 = .ok (.getfield 21, 3) := by decide +kernel
theorem dX7_tellFacts_31 : decode cX7_tellFacts 31 = .ok (.getfield 75, 3) := by decide +kernel
theorem dX7_tellFacts_34 : decode cX7_tellFacts 34 = .ok (.iload_n 1, 1) := by decide +kernel
theorem dX7_tellFacts_35 : decode cX7_tellFacts 35 = .ok (.iaload, 1) := by decide +kernel
theorem dX7_tellFacts_36 : decode cX7_tellFacts 36 = .ok (.aload_n 0, 1) := by decide +kernel
theorem dX7_tellFacts_37 : decode cX7_tellFacts 37 = .ok (.iload_n 2, 1) := by decide +kernel
theorem dX7_tellFacts_38 : decode cX7_tellFacts 38 = .ok (.invokevirtual 67, 3) := by decide +kernel
theorem dX7_tellFacts_41 : decode cX7_tellFacts 41 = .ok (.invokevirtual 107, 3) := by decide +kernel
theorem dX7_tellFacts_44 : decode cX7_tellFacts 44 = .ok (.return_, 1) := by decide +kernel
def g_X7_tellFacts (h : zH) (t0 : Nat) (x1 : Int32) (x2 : Int32) : Option zH := zgu (zin ((x1 * 7) + x2) 49) <| zgu (zin x1 7) <| zgu (zin x1 7) <| (g_X7_countAgainst h t0 x2).bind fun v_4 => (g_X1_tellFacts h (zR (zR t0 0) 6) (h.1 (zR t0 1) (zx ((x1 * 7) + x2))) (h.1 (zR (zR t0 0) 3) (zx x1)) (h.1 (zR (zR t0 0) 2) (zx x1)) v_4).bind fun v_5 => some v_5
set_option maxRecDepth 100000 in
set_option maxHeartbeats 4000000 in
theorem b_X7_tellFacts {K : zK} {G : zG} (hK : zC K G cX7_tellFacts RX7 3 2 44 none) {h : zH} {t0 : Nat} {x1 : Int32} {x2 : Int32} (ht0 : zT t0 = (6, 0)) {r : zH} (hE : zE K G (none) r) (hg : g_X7_tellFacts h t0 x1 x2 = some r) : zW K G 3 0 [(0, .ref (G.2.2.2 t0)), (1, .int x1), (2, .int x2)] [] h := by
  rw [g_X7_tellFacts] at hg
  obtain ⟨c_1, hg⟩ := zgu_some hg
  obtain ⟨c_2, hg⟩ := zgu_some hg
  obtain ⟨c_3, hg⟩ := zgu_some hg
  obtain ⟨v_4, qv_4, hg⟩ := zbind_some hg
  obtain ⟨v_5, qv_5, hg⟩ := zbind_some hg
  exact z_aload_n (pc := 0) hK 0 dX7_tellFacts_0 rfl (z_getR (pc := 1) hK f_X7_21_6 ht0 dX7_tellFacts_1 (z_getR (pc := 4) hK f_X7_92_4 (zt_6_0 ht0) dX7_tellFacts_4 (z_aload_n (pc := 7) hK 0 dX7_tellFacts_7 rfl (z_getR (pc := 8) hK f_X7_9_6 ht0 dX7_tellFacts_8 (z_iload_n (pc := 11) hK 1 dX7_tellFacts_11 rfl (z_bipush (pc := 12) hK dX7_tellFacts_12 zc_b7 (z_imul (pc := 14) hK dX7_tellFacts_14 (z_iload_n (pc := 15) hK 2 dX7_tellFacts_15 rfl (z_iadd (pc := 16) hK dX7_tellFacts_16 (z_iald (pc := 17) hK (zt_6_1 ht0) c_1 dX7_tellFacts_17 (z_aload_n (pc := 18) hK 0 dX7_tellFacts_18 rfl (z_getR (pc := 19) hK f_X7_21_6 ht0 dX7_tellFacts_19 (z_getR (pc := 22) hK f_X7_104_4 (zt_6_0 ht0) dX7_tellFacts_22 (z_iload_n (pc := 25) hK 1 dX7_tellFacts_25 rfl (z_iald (pc := 26) hK (zt_4_3 (zt_6_0 ht0)) c_2 dX7_tellFacts_26 (z_aload_n (pc := 27) hK 0 dX7_tellFacts_27 rfl (z_getR (pc := 28) hK f_X7_21_6 ht0 dX7_tellFacts_28 (z_getR (pc := 31) hK f_X7_75_4 (zt_6_0 ht0) dX7_tellFacts_31 (z_iload_n (pc := 34) hK 1 dX7_tellFacts_34 rfl (z_iald (pc := 35) hK (zt_4_2 (zt_6_0 ht0)) c_3 dX7_tellFacts_35 (z_aload_n (pc := 36) hK 0 dX7_tellFacts_36 rfl (z_iload_n (pc := 37) hK 2 dX7_tellFacts_37 rfl (z_callVi (pc := 38) hK [.int x2] (m_X7_countAgainst (zC_D hK) ht0 qv_4) sv_X7_countAgainst q_917 ht0 rfl [.int (h.1 (zR (zR t0 0) 2) (zx x1)), .int (h.1 (zR (zR t0 0) 3) (zx x1)), .int (h.1 (zR t0 1) (zx ((x1 * 7) + x2))), .ref (G.2.2.2 (zR (zR t0 0) 6))] rfl (Nat.le_of_ble_eq_true rfl) ⟨by decide, by decide⟩ dX7_tellFacts_38 (z_callVv (pc := 41) hK [.int (h.1 (zR t0 1) (zx ((x1 * 7) + x2))), .int (h.1 (zR (zR t0 0) 3) (zx x1)), .int (h.1 (zR (zR t0 0) 2) (zx x1)), .int v_4] (m_X1_tellFacts (zC_D hK) (zt_4_6 (zt_6_0 ht0)) qv_5) sv_X1_tellFacts q_949 (zt_4_6 (zt_6_0 ht0)) rfl [] rfl (Nat.le_of_ble_eq_true rfl) ⟨by decide, by decide⟩ dX7_tellFacts_41 (z_vretE (pc := 44) hK hE hg dX7_tellFacts_44)))))))))))))))))))))))))
theorem m_X7_tellFacts {l : Launch} {G : zG} (hG : zD G) {h : zH} {t0 : Nat} {x1 : Int32} {x2 : Int32} (ht0 : zT t0 = (6, 0)) {r : zH} (hg : g_X7_tellFacts h t0 x1 x2 = some r) : zM l G yX7_tellFacts cX7_tellFacts 3 none 2 44 [.ref (G.2.2.2 t0), .int x1, .int x2] h (none) r :=
  zM_of hG pn_X7 (Nat.le_of_ble_eq_true rfl) (fun K _ hK hE => b_X7_tellFacts hK ht0 hE hg)
theorem dX7_levy_0 : decode cX7_levy 0 = .ok (.aload_n 0, 1) := by decide +kernel
theorem dX7_levy_1 : decode cX7_levy 1 = .ok (.invokevirtual 81, 3) := by decide +kernel
theorem dX7_levy_4 : decode cX7_levy 4 = .ok (.istore_n 1, 1) := by decide +kernel
theorem dX7_levy_5 : decode cX7_levy 5 = .ok (.iload_n 1, 1) := by decide +kernel
theorem dX7_levy_6 : decode cX7_levy 6 = .ok (.iconst (-1), 1) := by decide +kernel
theorem dX7_levy_7 : decode cX7_levy 7 = .ok (.if_icmp .ne 5, 3) := by decide +kernel
theorem dX7_levy_10 : decode cX7_levy 10 = .ok (.iconst 0, 1) := by decide +kernel
theorem dX7_levy_11 : decode cX7_levy 11 = .ok (.ireturn, 1) := by decide +kernel
theorem dX7_levy_12 : decode cX7_levy 12 = .ok (.iconst 0, 1) := by decide +kernel
theorem dX7_levy_13 : decode cX7_levy 13 = .ok (.istore_n 2, 1) := by decide +kernel
theorem dX7_levy_14 : decode cX7_levy 14 = .ok (.iconst 0, 1) := by decide +kernel
theorem dX7_levy_15 : decode cX7_levy 15 = .ok (.istore_n 3, 1) := by decide +kernel
theorem dX7_levy_16 : decode cX7_levy 16 = .ok (.iload_n 3, 1) := by decide +kernel
theorem dX7_levy_17 : decode cX7_levy 17 = .ok (.aload_n 0, 1) := by decide +kernel
theorem dX7_levy_18 : decode cX7_levy 18 = .ok (.getfield 21, 3) := by decide +kernel
theorem dX7_levy_21 : decode cX7_levy 21 = .ok (.getfield 40, 3) := by decide +kernel
theorem dX7_levy_24 : decode cX7_levy 24 = .ok (.if_icmp .ge 90, 3) := by decide +kernel
theorem dX7_levy_27 : decode cX7_levy 27 = .ok (.iload_n 3, 1) := by decide +kernel
theorem dX7_levy_28 : decode cX7_levy 28 = .ok (.iload_n 1, 1) := by decide +kernel
theorem dX7_levy_29 : decode cX7_levy 29 = .ok (.if_icmp .eq 79, 3) := by decide +kernel
theorem dX7_levy_32 : decode cX7_levy 32 = .ok (.aload_n 0, 1) := by decide +kernel
theorem dX7_levy_33 : decode cX7_levy 33 = .ok (.iload_n 3, 1) := by decide +kernel
theorem dX7_levy_34 : decode cX7_levy 34 = .ok (.invokevirtual 60, 3) := by decide +kernel
theorem dX7_levy_37 : decode cX7_levy 37 = .ok (.ifCond .eq 71, 3) := by decide +kernel
theorem dX7_levy_40 : decode cX7_levy 40 = .ok (.iload_n 3, 1) := by decide +kernel
theorem dX7_levy_41 : decode cX7_levy 41 = .ok (.bipush 7, 2) := by decide +kernel
theorem dX7_levy_43 : decode cX7_levy 43 = .ok (.imul, 1) := by decide +kernel
theorem dX7_levy_44 : decode cX7_levy 44 = .ok (.iload_n 1, 1) := by decide +kernel
theorem dX7_levy_45 : decode cX7_levy 45 = .ok (.iadd, 1) := by decide +kernel
theorem dX7_levy_46 : decode cX7_levy 46 = .ok (.istore 4, 2) := by decide +kernel
theorem dX7_levy_48 : decode cX7_levy 48 = .ok (.aload_n 0, 1) := by decide +kernel
theorem dX7_levy_49 : decode cX7_levy 49 = .ok (.iload_n 3, 1) := by decide +kernel
theorem dX7_levy_50 : decode cX7_levy 50 = .ok (.iload_n 1, 1) := by decide +kernel
theorem dX7_levy_51 : decode cX7_levy 51 = .ok (.invokevirtual 88, 3) := by decide +kernel
theorem dX7_levy_54 : decode cX7_levy 54 = .ok (.bipush 9, 2) := by decide +kernel
theorem dX7_levy_56 : decode cX7_levy 56 = .ok (.aload_n 0, 1) := by decide +kernel
theorem dX7_levy_57 : decode cX7_levy 57 = .ok (.getfield 9, 3) := by decide +kernel
theorem dX7_levy_60 : decode cX7_levy 60 = .ok (.iload 4, 2) := by decide +kernel
theorem dX7_levy_62 : decode cX7_levy 62 = .ok (.iaload, 1) := by decide +kernel
theorem dX7_levy_63 : decode cX7_levy 63 = .ok (.aload_n 0, 1) := by decide +kernel
theorem dX7_levy_64 : decode cX7_levy 64 = .ok (.getfield 21, 3) := by decide +kernel
theorem dX7_levy_67 : decode cX7_levy 67 = .ok (.getfield 92, 3) := by decide +kernel
theorem dX7_levy_70 : decode cX7_levy 70 = .ok (.invokevirtual 96, 3) := by decide +kernel
theorem dX7_levy_73 : decode cX7_levy 73 = .ok (.iadd, 1) := by decide +kernel
theorem dX7_levy_74 : decode cX7_levy 74 = .ok (.invokestatic 101, 3) := by decide +kernel
theorem dX7_levy_77 : decode cX7_levy 77 = .ok (.istore 5, 2) := by decide +kernel
theorem dX7_levy_79 : decode cX7_levy 79 = .ok (.iload_n 2, 1) := by decide +kernel
theorem dX7_levy_80 : decode cX7_levy 80 = .ok (.iload 5, 2) := by decide +kernel
theorem dX7_levy_82 : decode cX7_levy 82 = .ok (.aload_n 0, 1) := by decide +kernel
theorem dX7_levy_83 : decode cX7_levy 83 = .ok (.getfield 9, 3) := by decide +kernel
theorem dX7_levy_86 : decode cX7_levy 86 = .ok (.iload 4, 2) := by decide +kernel
theorem dX7_levy_88 : decode cX7_levy 88 = .ok (.iaload, 1) := by decide +kernel
theorem dX7_levy_89 : decode cX7_levy 89 = .ok (.if_icmp .le 7, 3) := by decide +kernel
theorem dX7_levy_92 : decode cX7_levy 92 = .ok (.iconst 1, 1) := by decide +kernel
theorem dX7_levy_93 : decode cX7_levy 93 = .ok (.goto 4, 3) := by decide +kernel
theorem dX7_levy_96 : decode cX7_levy 96 = .ok (.iconst 0, 1) := by decide +kernel
theorem dX7_levy_97 : decode cX7_levy 97 = .ok (.iadd, 1) := by decide +kernel
theorem dX7_levy_98 : decode cX7_levy 98 = .ok (.istore_n 2, 1) := by decide +kernel
theorem dX7_levy_99 : decode cX7_levy 99 = .ok (.aload_n 0, 1) := by decide +kernel
theorem dX7_levy_100 : decode cX7_levy 100 = .ok (.getfield 9, 3) := by decide +kernel
theorem dX7_levy_103 : decode cX7_levy 103 = .ok (.iload 4, 2) := by decide +kernel
theorem dX7_levy_105 : decode cX7_levy 105 = .ok (.iload 5, 2) := by decide +kernel
theorem dX7_levy_107 : decode cX7_levy 107 = .ok (.iastore, 1) := by decide +kernel
theorem dX7_levy_108 : decode cX7_levy 108 = .ok (.iinc 3 1, 3) := by decide +kernel
theorem dX7_levy_111 : decode cX7_levy 111 = .ok (.goto (-95), 3) := by decide +kernel
theorem dX7_levy_114 : decode cX7_levy 114 = .ok (.iload_n 2, 1) := by decide +kernel
theorem dX7_levy_115 : decode cX7_levy 115 = .ok (.ireturn, 1) := by decide +kernel
def g_X7_levy_97 (t0 : Nat) (k16 : Int32 → Int32 → Int32 → zH → Option (Int32 × zH)) (x1 : Int32) (x3 : Int32) (x4 : Int32) (x5 : Int32) (s0 : Int32) (s1 : Int32) (h : zH) : Option (Int32 × zH) := zgu (zin x4 49) <| zlet (zpi h (zR t0 1) (zx x4) x5) fun h_15 => k16 x1 (s1 + s0) (x3 + 1) h_15
def g_X7_levy_16 (t0 : Nat)  : Nat → Int32 → Int32 → Int32 → zH → Option (Int32 × zH)
  | 0, _, _, _, _ => none
  | n + 1, x1, x2, x3, h => if (h.1 (zR t0 0) 7) ≤ x3 then (some (x2, h)) else (if x3 = x1 then (g_X7_levy_16 t0 n x1 x2 (x3 + 1) h) else ((g_X7_isAlive h t0 x3).bind fun v_5 => if (zb v_5) = 0 then (g_X7_levy_16 t0 n x1 x2 (x3 + 1) h) else (zlet ((x3 * 7) + x1) fun v_7 => (g_X7_tellFacts h t0 x3 x1).bind fun v_8 => zgu (zin v_7 49) <| (g_X1_growth v_8 (zR (zR t0 0) 6)).bind fun v_10 => zlet (if ((v_8.1 (zR t0 1) (zx v_7)) + v_10.1) < 9 then ((v_8.1 (zR t0 1) (zx v_7)) + v_10.1) else 9) fun v_11 => zgu (zin v_7 49) <| if v_11 ≤ (v_10.2.1 (zR t0 1) (zx v_7)) then (g_X7_levy_97 t0 (g_X7_levy_16 t0 n) x1 x3 v_7 v_11 0 x2 v_10.2) else (g_X7_levy_97 t0 (g_X7_levy_16 t0 n) x1 x3 v_7 v_11 1 x2 v_10.2))))
def g_X7_levy (h : zH) (t0 : Nat) : Option (Int32 × zH) := (g_X7_governor h t0).bind fun v_1 => if v_1 = (-1) then (some (0, h)) else (g_X7_levy_16 t0 zfu v_1 0 0 h)
set_option maxRecDepth 100000 in
set_option maxHeartbeats 4000000 in
theorem b_X7_levy_97 {K : zK} {G : zG} (hK : zC K G cX7_levy RX7 6 4 89 (some .int)) {t0 : Nat} (ht0 : zT t0 = (6, 0)) {r : Int32 × zH} (hE : zE K G (some (.int r.1)) r.2) {k16 : Int32 → Int32 → Int32 → zH → Option (Int32 × zH)} (hk16 : ∀ (x1 : Int32) (x2 : Int32) (x3 : Int32) (h : zH), k16 x1 x2 x3 h = some r → zW K G 6 16 [(0, .ref (G.2.2.2 t0)), (1, .int x1), (2, .int x2), (3, .int x3)] [] h) (x1 : Int32) (x3 : Int32) (x4 : Int32) (x5 : Int32) (s0 : Int32) (s1 : Int32) (h : zH) (hg : g_X7_levy_97 t0 k16 x1 x3 x4 x5 s0 s1 h = some r) : zW K G 6 97 [(0, .ref (G.2.2.2 t0)), (1, .int x1), (3, .int x3), (4, .int x4), (5, .int x5)] [.int s0, .int s1] h := by
  rw [g_X7_levy_97] at hg
  obtain ⟨c_14, hg⟩ := zgu_some hg
  obtain ⟨h_15, eh_15, hg⟩ := zlet_some hg
  exact z_iadd (pc := 97) hK dX7_levy_97 (z_istore_n (pc := 98) hK (lv' := [(2, .int (s1 + s0)), (0, .ref (G.2.2.2 t0)), (1, .int x1), (3, .int x3), (4, .int x4), (5, .int x5)]) dX7_levy_98 (by decide) rfl (z_aload_n (pc := 99) hK 1 dX7_levy_99 rfl (z_getR (pc := 100) hK f_X7_9_6 ht0 dX7_levy_100 (z_iload (pc := 103) hK 4 dX7_levy_103 rfl (z_iload (pc := 105) hK 5 dX7_levy_105 rfl (z_iast (pc := 107) hK (zt_6_1 ht0) c_14 dX7_levy_107 (z_nameH eh_15 (z_iinc (pc := 108) hK 3 (lv' := [(3, .int (x3 + 1)), (2, .int (s1 + s0)), (0, .ref (G.2.2.2 t0)), (1, .int x1), (4, .int x4), (5, .int x5)]) dX7_levy_108 rfl (zc_n1 _) (by decide) rfl (z_goto (pc := 111) hK 16 dX7_levy_111 (by decide) (zsub (lv' := [(0, .ref (G.2.2.2 t0)), (1, .int x1), (2, .int (s1 + s0)), (3, .int (x3 + 1))]) [2, 3, 1, 0] rfl (hk16 x1 (s1 + s0) (x3 + 1) h_15 hg)))))))))))
set_option maxRecDepth 100000 in
set_option maxHeartbeats 4000000 in
theorem b_X7_levy_16 {K : zK} {G : zG} (hK : zC K G cX7_levy RX7 6 4 89 (some .int)) {t0 : Nat} (ht0 : zT t0 = (6, 0)) {r : Int32 × zH} (hE : zE K G (some (.int r.1)) r.2) : ∀ (n : Nat) (x1 : Int32) (x2 : Int32) (x3 : Int32) (h : zH), g_X7_levy_16 t0 n x1 x2 x3 h = some r → zW K G 6 16 [(0, .ref (G.2.2.2 t0)), (1, .int x1), (2, .int x2), (3, .int x3)] [] h := by
  intro n
  induction n with
  | zero => intro x1 x2 x3 h hg; exact nomatch (show none = some r from hg)
  | succ n ih =>
    intro x1 x2 x3 h hg
    rw [g_X7_levy_16] at hg
    refine z_iload_n (pc := 16) hK 3 dX7_levy_16 rfl (z_aload_n (pc := 17) hK 0 dX7_levy_17 rfl (z_getR (pc := 18) hK f_X7_21_6 ht0 dX7_levy_18 (z_getI (pc := 21) hK f_X7_40_4 (zt_6_0 ht0) dX7_levy_21 (z_icmp_ge (pc := 24) hK 114 dX7_levy_24 (by decide) (fun c_3 => ?_) (fun c_3 => ?_)))))
    · rw [if_pos c_3] at hg
      exact z_iload_n (pc := 114) hK 2 dX7_levy_114 rfl (z_iretE (pc := 115) hK hE hg dX7_levy_115)
    · rw [if_neg c_3] at hg
      refine z_iload_n (pc := 27) hK 3 dX7_levy_27 rfl (z_iload_n (pc := 28) hK 1 dX7_levy_28 rfl (z_icmp_eq (pc := 29) hK 108 dX7_levy_29 (by decide) (fun c_4 => ?_) (fun c_4 => ?_)))
      · rw [if_pos c_4] at hg
        exact z_iinc (pc := 108) hK 3 (lv' := [(3, .int (x3 + 1)), (0, .ref (G.2.2.2 t0)), (1, .int x1), (2, .int x2)]) dX7_levy_108 rfl (zc_n1 _) (by decide) rfl (z_goto (pc := 111) hK 16 dX7_levy_111 (by decide) (zsub (lv' := [(0, .ref (G.2.2.2 t0)), (1, .int x1), (2, .int x2), (3, .int (x3 + 1))]) [1, 2, 3, 0] rfl (ih x1 x2 (x3 + 1) h hg)))
      · rw [if_neg c_4] at hg
        obtain ⟨v_5, qv_5, hg⟩ := zbind_some hg
        refine z_aload_n (pc := 32) hK 0 dX7_levy_32 rfl (z_iload_n (pc := 33) hK 3 dX7_levy_33 rfl (z_callVi (pc := 34) hK [.int x3] (m_X7_isAlive (zC_D hK) ht0 qv_5) sv_X7_isAlive q_883 ht0 rfl [] rfl (Nat.le_of_ble_eq_true rfl) ⟨by decide, by decide⟩ dX7_levy_34 (z_if_eq (pc := 37) hK 108 dX7_levy_37 (by decide) (fun c_6 => ?_) (fun c_6 => ?_))))
        · rw [if_pos c_6] at hg
          exact z_iinc (pc := 108) hK 3 (lv' := [(3, .int (x3 + 1)), (0, .ref (G.2.2.2 t0)), (1, .int x1), (2, .int x2)]) dX7_levy_108 rfl (zc_n1 _) (by decide) rfl (z_goto (pc := 111) hK 16 dX7_levy_111 (by decide) (zsub (lv' := [(0, .ref (G.2.2.2 t0)), (1, .int x1), (2, .int x2), (3, .int (x3 + 1))]) [1, 2, 3, 0] rfl (ih x1 x2 (x3 + 1) h hg)))
        · rw [if_neg c_6] at hg
          obtain ⟨v_7, ev_7, hg⟩ := zlet_some hg
          obtain ⟨v_8, qv_8, hg⟩ := zbind_some hg
          obtain ⟨c_9, hg⟩ := zgu_some hg
          obtain ⟨v_10, qv_10, hg⟩ := zbind_some hg
          obtain ⟨v_11, ev_11, hg⟩ := zlet_some hg
          obtain ⟨c_12, hg⟩ := zgu_some hg
          refine z_iload_n (pc := 40) hK 3 dX7_levy_40 rfl (z_bipush (pc := 41) hK dX7_levy_41 zc_b7 (z_imul (pc := 43) hK dX7_levy_43 (z_iload_n (pc := 44) hK 1 dX7_levy_44 rfl (z_iadd (pc := 45) hK dX7_levy_45 (z_nameI ev_7 (z_istore (pc := 46) hK (lv' := [(4, .int v_7), (0, .ref (G.2.2.2 t0)), (1, .int x1), (2, .int x2), (3, .int x3)]) dX7_levy_46 (by decide) rfl (z_aload_n (pc := 48) hK 1 dX7_levy_48 rfl (z_iload_n (pc := 49) hK 4 dX7_levy_49 rfl (z_iload_n (pc := 50) hK 2 dX7_levy_50 rfl (z_callVv (pc := 51) hK [.int x3, .int x1] (m_X7_tellFacts (zC_D hK) ht0 qv_8) sv_X7_tellFacts q_945 ht0 rfl [] rfl (Nat.le_of_ble_eq_true rfl) ⟨by decide, by decide⟩ dX7_levy_51 (z_bipush (pc := 54) hK dX7_levy_54 zc_b9 (z_aload_n (pc := 56) hK 1 dX7_levy_56 rfl (z_getR (pc := 57) hK f_X7_9_6 ht0 dX7_levy_57 (z_iload (pc := 60) hK 0 dX7_levy_60 rfl (z_iald (pc := 62) hK (zt_6_1 ht0) c_9 dX7_levy_62 (z_aload_n (pc := 63) hK 1 dX7_levy_63 rfl (z_getR (pc := 64) hK f_X7_21_6 ht0 dX7_levy_64 (z_getR (pc := 67) hK f_X7_92_4 (zt_6_0 ht0) dX7_levy_67 (z_callVi (pc := 70) hK [] (m_X1_growth (zC_D hK) (zt_4_6 (zt_6_0 ht0)) qv_10) sv_X1_growth q_953 (zt_4_6 (zt_6_0 ht0)) rfl [.int (v_8.1 (zR t0 1) (zx v_7)), .int 9] rfl (Nat.le_of_ble_eq_true rfl) ⟨by decide, by decide⟩ dX7_levy_70 (z_iadd (pc := 73) hK dX7_levy_73 (z_mmin (pc := 74) hK q_978 zw_min ⟨by decide, Nat.le_of_ble_eq_true rfl⟩ dX7_levy_74 (z_nameI ev_11 (z_istore (pc := 77) hK (lv' := [(5, .int v_11), (4, .int v_7), (0, .ref (G.2.2.2 t0)), (1, .int x1), (2, .int x2), (3, .int x3)]) dX7_levy_77 (by decide) rfl (z_iload_n (pc := 79) hK 4 dX7_levy_79 rfl (z_iload (pc := 80) hK 0 dX7_levy_80 rfl (z_aload_n (pc := 82) hK 2 dX7_levy_82 rfl (z_getR (pc := 83) hK f_X7_9_6 ht0 dX7_levy_83 (z_iload (pc := 86) hK 1 dX7_levy_86 rfl (z_iald (pc := 88) hK (zt_6_1 ht0) c_12 dX7_levy_88 (z_icmp_le (pc := 89) hK 96 dX7_levy_89 (by decide) (fun c_13 => ?_) (fun c_13 => ?_)))))))))))))))))))))))))))))))
          · rw [if_pos c_13] at hg
            exact z_iconst (pc := 96) hK dX7_levy_96 zc_i0 (zsub (lv' := [(0, .ref (G.2.2.2 t0)), (1, .int x1), (3, .int x3), (4, .int v_7), (5, .int v_11)]) [2, 3, 5, 1, 0] rfl (b_X7_levy_97 hK ht0 hE ih x1 x3 v_7 v_11 0 x2 v_10.2 hg))
          · rw [if_neg c_13] at hg
            exact z_iconst (pc := 92) hK dX7_levy_92 zc_i1 (z_goto (pc := 93) hK 97 dX7_levy_93 (by decide) (zsub (lv' := [(0, .ref (G.2.2.2 t0)), (1, .int x1), (3, .int x3), (4, .int v_7), (5, .int v_11)]) [2, 3, 5, 1, 0] rfl (b_X7_levy_97 hK ht0 hE ih x1 x3 v_7 v_11 1 x2 v_10.2 hg)))
set_option maxRecDepth 100000 in
set_option maxHeartbeats 4000000 in
theorem b_X7_levy {K : zK} {G : zG} (hK : zC K G cX7_levy RX7 6 4 89 (some .int)) {h : zH} {t0 : Nat} (ht0 : zT t0 = (6, 0)) {r : Int32 × zH} (hE : zE K G (some (.int r.1)) r.2) (hg : g_X7_levy h t0 = some r) : zW K G 6 0 [(0, .ref (G.2.2.2 t0))] [] h := by
  rw [g_X7_levy] at hg
  obtain ⟨v_1, qv_1, hg⟩ := zbind_some hg
  refine z_aload_n (pc := 0) hK 0 dX7_levy_0 rfl (z_callVi (pc := 1) hK [] (m_X7_governor (zC_D hK) ht0 qv_1) sv_X7_governor q_930 ht0 rfl [] rfl (Nat.le_of_ble_eq_true rfl) ⟨by decide, by decide⟩ dX7_levy_1 (z_istore_n (pc := 4) hK (lv' := [(1, .int v_1), (0, .ref (G.2.2.2 t0))]) dX7_levy_4 (by decide) rfl (z_iload_n (pc := 5) hK 0 dX7_levy_5 rfl (z_iconst (pc := 6) hK dX7_levy_6 zc_im1 (z_icmp_ne (pc := 7) hK 12 dX7_levy_7 (by decide) (fun c_2 => ?_) (fun c_2 => ?_))))))
  · rw [if_neg c_2] at hg
    exact z_iconst (pc := 12) hK dX7_levy_12 zc_i0 (z_istore_n (pc := 13) hK (lv' := [(2, .int 0), (1, .int v_1), (0, .ref (G.2.2.2 t0))]) dX7_levy_13 (by decide) rfl (z_iconst (pc := 14) hK dX7_levy_14 zc_i0 (z_istore_n (pc := 15) hK (lv' := [(3, .int 0), (2, .int 0), (1, .int v_1), (0, .ref (G.2.2.2 t0))]) dX7_levy_15 (by decide) rfl (zsub (lv' := [(0, .ref (G.2.2.2 t0)), (1, .int v_1), (2, .int 0), (3, .int 0)]) [3, 2, 1, 0] rfl (b_X7_levy_16 hK ht0 hE zfu v_1 0 0 h hg)))))
  · rw [if_pos c_2] at hg
    exact z_iconst (pc := 10) hK dX7_levy_10 zc_i0 (z_iretE (pc := 11) hK hE hg dX7_levy_11)
theorem m_X7_levy {l : Launch} {G : zG} (hG : zD G) {h : zH} {t0 : Nat} (ht0 : zT t0 = (6, 0)) {r : Int32 × zH} (hg : g_X7_levy h t0 = some r) : zM l G yX7_levy cX7_levy 6 (some .int) 4 89 [.ref (G.2.2.2 t0)] h (some (.int r.1)) r.2 :=
  zM_of hG pn_X7 (Nat.le_of_ble_eq_true rfl) (fun K _ hK hE => b_X7_levy hK ht0 hE hg)
theorem dX7_areTwoAlive_0 : decode cX7_areTwoAlive 0 = .ok (.iload_n 1, 1) := by decide +kernel
theorem dX7_areTwoAlive_1 : decode cX7_areTwoAlive 1 = .ok (.iload_n 2, 1) := by decide +kernel
theorem dX7_areTwoAlive_2 : decode cX7_areTwoAlive 2 = .ok (.if_icmp .eq 23, 3) := by decide +kernel
theorem dX7_areTwoAlive_5 : decode cX7_areTwoAlive 5 = .ok (.aload_n 0, 1) := by decide +kernel
theorem dX7_areTwoAlive_6 : decode cX7_areTwoAlive 6 = .ok (.iload_n 1, 1) := by decide +kernel
theorem dX7_areTwoAlive_7 : decode cX7_areTwoAlive 7 = .ok (.invokevirtual 60, 3) := by decide +kernel
theorem dX7_areTwoAlive_10 : decode cX7_areTwoAlive 10 = .ok (.ifCond .eq 15, 3) := by decide +kernel
theorem dX7_areTwoAlive_13 : decode cX7_areTwoAlive 13 = .ok (.aload_n 0, 1) := by decide +kernel
theorem dX7_areTwoAlive_14 : decode cX7_areTwoAlive 14 = .ok (.iload_n 2, 1) := by decide +kernel
theorem dX7_areTwoAlive_15 : decode cX7_areTwoAlive 15 = .ok (.invokevirtual 60, 3) := by decide +kernel
theorem dX7_areTwoAlive_18 : decode cX7_areTwoAlive 18 = .ok (.ifCond .eq 7, 3) := by decide +kernel
theorem dX7_areTwoAlive_21 : decode cX7_areTwoAlive 21 = .ok (.iconst 1, 1) := by decide +kernel
theorem dX7_areTwoAlive_22 : decode cX7_areTwoAlive 22 = .ok (.goto 4, 3) := by decide +kernel
theorem dX7_areTwoAlive_25 : decode cX7_areTwoAlive 25 = .ok (.iconst 0, 1) := by decide +kernel
theorem dX7_areTwoAlive_26 : decode cX7_areTwoAlive 26 = .ok (.ireturn, 1) := by decide +kernel
def g_X7_areTwoAlive (h : zH) (t0 : Nat) (x1 : Int32) (x2 : Int32) : Option Bool := if x1 = x2 then (some false) else ((g_X7_isAlive h t0 x1).bind fun v_2 => if (zb v_2) = 0 then (some false) else ((g_X7_isAlive h t0 x2).bind fun v_4 => if (zb v_4) = 0 then (some false) else (some true)))
set_option maxRecDepth 100000 in
set_option maxHeartbeats 4000000 in
theorem b_X7_areTwoAlive {K : zK} {G : zG} (hK : zC K G cX7_areTwoAlive RX7 3 1 21 (some .boolean)) {h : zH} {t0 : Nat} {x1 : Int32} {x2 : Int32} (ht0 : zT t0 = (6, 0)) {r : Bool} (hE : zE K G (some (.int (zb r))) h) (hg : g_X7_areTwoAlive h t0 x1 x2 = some r) : zW K G 3 0 [(0, .ref (G.2.2.2 t0)), (1, .int x1), (2, .int x2)] [] h := by
  rw [g_X7_areTwoAlive] at hg
  refine z_iload_n (pc := 0) hK 1 dX7_areTwoAlive_0 rfl (z_iload_n (pc := 1) hK 2 dX7_areTwoAlive_1 rfl (z_icmp_eq (pc := 2) hK 25 dX7_areTwoAlive_2 (by decide) (fun c_1 => ?_) (fun c_1 => ?_)))
  · rw [if_pos c_1] at hg
    exact z_iconst (pc := 25) hK dX7_areTwoAlive_25 zc_i0 (z_zretP (pc := 26) hK rfl hE hg dX7_areTwoAlive_26)
  · rw [if_neg c_1] at hg
    obtain ⟨v_2, qv_2, hg⟩ := zbind_some hg
    refine z_aload_n (pc := 5) hK 0 dX7_areTwoAlive_5 rfl (z_iload_n (pc := 6) hK 1 dX7_areTwoAlive_6 rfl (z_callVi (pc := 7) hK [.int x1] (m_X7_isAlive (zC_D hK) ht0 qv_2) sv_X7_isAlive q_883 ht0 rfl [] rfl (Nat.le_of_ble_eq_true rfl) ⟨by decide, by decide⟩ dX7_areTwoAlive_7 (z_if_eq (pc := 10) hK 25 dX7_areTwoAlive_10 (by decide) (fun c_3 => ?_) (fun c_3 => ?_))))
    · rw [if_pos c_3] at hg
      exact z_iconst (pc := 25) hK dX7_areTwoAlive_25 zc_i0 (z_zretP (pc := 26) hK rfl hE hg dX7_areTwoAlive_26)
    · rw [if_neg c_3] at hg
      obtain ⟨v_4, qv_4, hg⟩ := zbind_some hg
      refine z_aload_n (pc := 13) hK 0 dX7_areTwoAlive_13 rfl (z_iload_n (pc := 14) hK 2 dX7_areTwoAlive_14 rfl (z_callVi (pc := 15) hK [.int x2] (m_X7_isAlive (zC_D hK) ht0 qv_4) sv_X7_isAlive q_883 ht0 rfl [] rfl (Nat.le_of_ble_eq_true rfl) ⟨by decide, by decide⟩ dX7_areTwoAlive_15 (z_if_eq (pc := 18) hK 25 dX7_areTwoAlive_18 (by decide) (fun c_5 => ?_) (fun c_5 => ?_))))
      · rw [if_pos c_5] at hg
        exact z_iconst (pc := 25) hK dX7_areTwoAlive_25 zc_i0 (z_zretP (pc := 26) hK rfl hE hg dX7_areTwoAlive_26)
      · rw [if_neg c_5] at hg
        exact z_iconst (pc := 21) hK dX7_areTwoAlive_21 zc_i1 (z_goto (pc := 22) hK 26 dX7_areTwoAlive_22 (by decide) (z_zretP (pc := 26) hK rfl hE hg dX7_areTwoAlive_26))
theorem m_X7_areTwoAlive {l : Launch} {G : zG} (hG : zD G) {h : zH} {t0 : Nat} {x1 : Int32} {x2 : Int32} (ht0 : zT t0 = (6, 0)) {r : Bool} (hg : g_X7_areTwoAlive h t0 x1 x2 = some r) : zM l G yX7_areTwoAlive cX7_areTwoAlive 3 (some .boolean) 1 21 [.ref (G.2.2.2 t0), .int x1, .int x2] h (some (.int (zb r))) h :=
  zM_of hG pn_X7 (Nat.le_of_ble_eq_true rfl) (fun K _ hK hE => b_X7_areTwoAlive hK ht0 hE hg)
theorem dX7_give_0 : decode cX7_give 0 = .ok (.iload_n 2, 1) := by decide +kernel
theorem dX7_give_1 : decode cX7_give 1 = .ok (.bipush 7, 2) := by decide +kernel
theorem dX7_give_3 : decode cX7_give 3 = .ok (.imul, 1) := by decide +kernel
theorem dX7_give_4 : decode cX7_give 4 = .ok (.iload_n 1, 1) := by decide +kernel
theorem dX7_give_5 : decode cX7_give 5 = .ok (.iadd, 1) := by decide +kernel
theorem dX7_give_6 : decode cX7_give 6 = .ok (.istore_n 3, 1) := by decide +kernel
theorem dX7_give_7 : decode cX7_give 7 = .ok (.aload_n 0, 1) := by decide +kernel
theorem dX7_give_8 : decode cX7_give 8 = .ok (.iload_n 2, 1) := by decide +kernel
theorem dX7_give_9 : decode cX7_give 9 = .ok (.iload_n 1, 1) := by decide +kernel
theorem dX7_give_10 : decode cX7_give 10 = .ok (.invokevirtual 88, 3) := by decide +kernel
theorem dX7_give_13 : decode cX7_give 13 = .ok (.aload_n 0, 1) := by decide +kernel
theorem dX7_give_14 : decode cX7_give 14 = .ok (.getfield 9, 3) := by decide +kernel
theorem dX7_give_17 : decode cX7_give 17 = .ok (.iload_n 3, 1) := by decide +kernel
theorem dX7_give_18 : decode cX7_give 18 = .ok (.iconst 0, 1) := by decide +kernel
theorem dX7_give_19 : decode cX7_give 19 = .ok (.aload_n 0, 1) := by decide +kernel
theorem dX7_give_20 : decode cX7_give 20 = .ok (.getfield 9, 3) := by decide +kernel
theorem dX7_give_23 : decode cX7_give 23 = .ok (.iload_n 3, 1) := by decide +kernel
theorem dX7_give_24 : decode cX7_give 24 = .ok (.iaload, 1) := by decide +kernel
theorem dX7_give_25 : decode cX7_give 25 = .ok (.aload_n 0, 1) := by decide +kernel
theorem dX7_give_26 : decode cX7_give 26 = .ok (.getfield 21, 3) := by decide +kernel
theorem dX7_give_29 : decode cX7_give 29 = .ok (.getfield 92, 3) := by decide +kernel
theorem dX7_give_32 : decode cX7_give 32 = .ok (.invokevirtual 110, 3) := by decide +kernel
theorem dX7_give_35 : decode cX7_give 35 = .ok (.isub, 1) := by decide +kernel
theorem dX7_give_36 : decode cX7_give 36 = .ok (.invokestatic 28, 3) := by decide +kernel
theorem dX7_give_39 : decode cX7_give 39 = .ok (.iastore, 1) := by decide +kernel
theorem dX7_give_40 : decode cX7_give 40 = .ok (.aload_n 0, 1) := by decide +kernel
theorem dX7_give_41 : decode cX7_give 41 = .ok (.getfield 9, 3) := by decide +kernel
theorem dX7_give_44 : decode cX7_give 44 = .ok (.iload_n 3, 1) := by decide +kernel
theorem dX7_give_45 : decode cX7_give 45 = .ok (.iaload, 1) := by decide +kernel
theorem dX7_give_46 : decode cX7_give 46 = .ok (.ireturn, 1) := by decide +kernel
def g_X7_give (h : zH) (t0 : Nat) (x1 : Int32) (x2 : Int32) : Option (Int32 × zH) := zlet ((x2 * 7) + x1) fun v_1 => (g_X7_tellFacts h t0 x2 x1).bind fun v_2 => zgu (zin v_1 49) <| (g_X1_easing v_2 (zR (zR t0 0) 6)).bind fun v_4 => zgu (zin v_1 49) <| zlet (zpi v_4.2 (zR t0 1) (zx v_1) (if 0 < ((v_2.1 (zR t0 1) (zx v_1)) - v_4.1) then ((v_2.1 (zR t0 1) (zx v_1)) - v_4.1) else 0)) fun h_6 => zgu (zin v_1 49) <| some (h_6.1 (zR t0 1) (zx v_1), h_6)
set_option maxRecDepth 100000 in
set_option maxHeartbeats 4000000 in
theorem b_X7_give {K : zK} {G : zG} (hK : zC K G cX7_give RX7 4 3 68 (some .int)) {h : zH} {t0 : Nat} {x1 : Int32} {x2 : Int32} (ht0 : zT t0 = (6, 0)) {r : Int32 × zH} (hE : zE K G (some (.int r.1)) r.2) (hg : g_X7_give h t0 x1 x2 = some r) : zW K G 4 0 [(0, .ref (G.2.2.2 t0)), (1, .int x1), (2, .int x2)] [] h := by
  rw [g_X7_give] at hg
  obtain ⟨v_1, ev_1, hg⟩ := zlet_some hg
  obtain ⟨v_2, qv_2, hg⟩ := zbind_some hg
  obtain ⟨c_3, hg⟩ := zgu_some hg
  obtain ⟨v_4, qv_4, hg⟩ := zbind_some hg
  obtain ⟨c_5, hg⟩ := zgu_some hg
  obtain ⟨h_6, eh_6, hg⟩ := zlet_some hg
  obtain ⟨c_7, hg⟩ := zgu_some hg
  exact z_iload_n (pc := 0) hK 2 dX7_give_0 rfl (z_bipush (pc := 1) hK dX7_give_1 zc_b7 (z_imul (pc := 3) hK dX7_give_3 (z_iload_n (pc := 4) hK 1 dX7_give_4 rfl (z_iadd (pc := 5) hK dX7_give_5 (z_nameI ev_1 (z_istore_n (pc := 6) hK (lv' := [(3, .int v_1), (0, .ref (G.2.2.2 t0)), (1, .int x1), (2, .int x2)]) dX7_give_6 (by decide) rfl (z_aload_n (pc := 7) hK 1 dX7_give_7 rfl (z_iload_n (pc := 8) hK 3 dX7_give_8 rfl (z_iload_n (pc := 9) hK 2 dX7_give_9 rfl (z_callVv (pc := 10) hK [.int x2, .int x1] (m_X7_tellFacts (zC_D hK) ht0 qv_2) sv_X7_tellFacts q_945 ht0 rfl [] rfl (Nat.le_of_ble_eq_true rfl) ⟨by decide, by decide⟩ dX7_give_10 (z_aload_n (pc := 13) hK 1 dX7_give_13 rfl (z_getR (pc := 14) hK f_X7_9_6 ht0 dX7_give_14 (z_iload_n (pc := 17) hK 0 dX7_give_17 rfl (z_iconst (pc := 18) hK dX7_give_18 zc_i0 (z_aload_n (pc := 19) hK 1 dX7_give_19 rfl (z_getR (pc := 20) hK f_X7_9_6 ht0 dX7_give_20 (z_iload_n (pc := 23) hK 0 dX7_give_23 rfl (z_iald (pc := 24) hK (zt_6_1 ht0) c_3 dX7_give_24 (z_aload_n (pc := 25) hK 1 dX7_give_25 rfl (z_getR (pc := 26) hK f_X7_21_6 ht0 dX7_give_26 (z_getR (pc := 29) hK f_X7_92_4 (zt_6_0 ht0) dX7_give_29 (z_callVi (pc := 32) hK [] (m_X1_easing (zC_D hK) (zt_4_6 (zt_6_0 ht0)) qv_4) sv_X1_easing q_991 (zt_4_6 (zt_6_0 ht0)) rfl [.int (v_2.1 (zR t0 1) (zx v_1)), .int 0, .int v_1, .ref (G.2.2.2 (zR t0 1))] rfl (Nat.le_of_ble_eq_true rfl) ⟨by decide, by decide⟩ dX7_give_32 (z_isub (pc := 35) hK dX7_give_35 (z_mmax (pc := 36) hK q_847 zw_max ⟨by decide, Nat.le_of_ble_eq_true rfl⟩ dX7_give_36 (z_iast (pc := 39) hK (zt_6_1 ht0) c_5 dX7_give_39 (z_nameH eh_6 (z_aload_n (pc := 40) hK 1 dX7_give_40 rfl (z_getR (pc := 41) hK f_X7_9_6 ht0 dX7_give_41 (z_iload_n (pc := 44) hK 0 dX7_give_44 rfl (z_iald (pc := 45) hK (zt_6_1 ht0) c_7 dX7_give_45 (z_iretE (pc := 46) hK hE hg dX7_give_46)))))))))))))))))))))))))))))))
theorem m_X7_give {l : Launch} {G : zG} (hG : zD G) {h : zH} {t0 : Nat} {x1 : Int32} {x2 : Int32} (ht0 : zT t0 = (6, 0)) {r : Int32 × zH} (hg : g_X7_give h t0 x1 x2 = some r) : zM l G yX7_give cX7_give 4 (some .int) 3 68 [.ref (G.2.2.2 t0), .int x1, .int x2] h (some (.int r.1)) r.2 :=
  zM_of hG pn_X7 (Nat.le_of_ble_eq_true rfl) (fun K _ hK hE => b_X7_give hK ht0 hE hg)
theorem dX7_canVote_0 : decode cX7_canVote 0 = .ok (.aload_n 0, 1) := by decide +kernel
theorem dX7_canVote_1 : decode cX7_canVote 1 = .ok (.iload_n 1, 1) := by decide +kernel
theorem dX7_canVote_2 : decode cX7_canVote 2 = .ok (.iload_n 2, 1) := by decide +kernel
theorem dX7_canVote_3 : decode cX7_canVote 3 = .ok (.invokevirtual 113, 3) := by decide +kernel
theorem dX7_canVote_6 : decode cX7_canVote 6 = .ok (.ifCond .eq 16, 3) := by decide +kernel
theorem dX7_canVote_9 : decode cX7_canVote 9 = .ok (.aload_n 0, 1) := by decide +kernel
theorem dX7_canVote_10 : decode cX7_canVote 10 = .ok (.getfield 18, 3) := by decide +kernel
theorem dX7_canVote_13 : decode cX7_canVote 13 = .ok (.iload_n 1, 1) := by decide +kernel
theorem dX7_canVote_14 : decode cX7_canVote 14 = .ok (.iaload, 1) := by decide +kernel
theorem dX7_canVote_15 : decode cX7_canVote 15 = .ok (.ifCond .le 7, 3) := by decide +kernel
theorem dX7_canVote_18 : decode cX7_canVote 18 = .ok (.iconst 1, 1) := by decide +kernel
theorem dX7_canVote_19 : decode cX7_canVote 19 = .ok (.goto 4, 3) := by decide +kernel
theorem dX7_canVote_22 : decode cX7_canVote 22 = .ok (.iconst 0, 1) := by decide +kernel
theorem dX7_canVote_23 : decode cX7_canVote 23 = .ok (.ireturn, 1) := by decide +kernel
def g_X7_canVote (h : zH) (t0 : Nat) (x1 : Int32) (x2 : Int32) : Option Bool := (g_X7_areTwoAlive h t0 x1 x2).bind fun v_1 => if (zb v_1) = 0 then (some false) else (zgu (zin x1 7) <| if (h.1 (zR t0 3) (zx x1)) ≤ 0 then (some false) else (some true))
set_option maxRecDepth 100000 in
set_option maxHeartbeats 4000000 in
theorem b_X7_canVote {K : zK} {G : zG} (hK : zC K G cX7_canVote RX7 3 2 43 (some .boolean)) {h : zH} {t0 : Nat} {x1 : Int32} {x2 : Int32} (ht0 : zT t0 = (6, 0)) {r : Bool} (hE : zE K G (some (.int (zb r))) h) (hg : g_X7_canVote h t0 x1 x2 = some r) : zW K G 3 0 [(0, .ref (G.2.2.2 t0)), (1, .int x1), (2, .int x2)] [] h := by
  rw [g_X7_canVote] at hg
  obtain ⟨v_1, qv_1, hg⟩ := zbind_some hg
  refine z_aload_n (pc := 0) hK 0 dX7_canVote_0 rfl (z_iload_n (pc := 1) hK 1 dX7_canVote_1 rfl (z_iload_n (pc := 2) hK 2 dX7_canVote_2 rfl (z_callVi (pc := 3) hK [.int x1, .int x2] (m_X7_areTwoAlive (zC_D hK) ht0 qv_1) sv_X7_areTwoAlive q_1003 ht0 rfl [] rfl (Nat.le_of_ble_eq_true rfl) ⟨by decide, by decide⟩ dX7_canVote_3 (z_if_eq (pc := 6) hK 22 dX7_canVote_6 (by decide) (fun c_2 => ?_) (fun c_2 => ?_)))))
  · rw [if_pos c_2] at hg
    exact z_iconst (pc := 22) hK dX7_canVote_22 zc_i0 (z_zretP (pc := 23) hK rfl hE hg dX7_canVote_23)
  · rw [if_neg c_2] at hg
    obtain ⟨c_3, hg⟩ := zgu_some hg
    refine z_aload_n (pc := 9) hK 0 dX7_canVote_9 rfl (z_getR (pc := 10) hK f_X7_18_6 ht0 dX7_canVote_10 (z_iload_n (pc := 13) hK 1 dX7_canVote_13 rfl (z_iald (pc := 14) hK (zt_6_3 ht0) c_3 dX7_canVote_14 (z_if_le (pc := 15) hK 22 dX7_canVote_15 (by decide) (fun c_4 => ?_) (fun c_4 => ?_)))))
    · rw [if_pos c_4] at hg
      exact z_iconst (pc := 22) hK dX7_canVote_22 zc_i0 (z_zretP (pc := 23) hK rfl hE hg dX7_canVote_23)
    · rw [if_neg c_4] at hg
      exact z_iconst (pc := 18) hK dX7_canVote_18 zc_i1 (z_goto (pc := 19) hK 23 dX7_canVote_19 (by decide) (z_zretP (pc := 23) hK rfl hE hg dX7_canVote_23))
theorem m_X7_canVote {l : Launch} {G : zG} (hG : zD G) {h : zH} {t0 : Nat} {x1 : Int32} {x2 : Int32} (ht0 : zT t0 = (6, 0)) {r : Bool} (hg : g_X7_canVote h t0 x1 x2 = some r) : zM l G yX7_canVote cX7_canVote 3 (some .boolean) 2 43 [.ref (G.2.2.2 t0), .int x1, .int x2] h (some (.int (zb r))) h :=
  zM_of hG pn_X7 (Nat.le_of_ble_eq_true rfl) (fun K _ hK hE => b_X7_canVote hK ht0 hE hg)
theorem dX7_vote_0 : decode cX7_vote 0 = .ok (.aload_n 0, 1) := by decide +kernel
theorem dX7_vote_1 : decode cX7_vote 1 = .ok (.getfield 18, 3) := by decide +kernel
theorem dX7_vote_4 : decode cX7_vote 4 = .ok (.iload_n 1, 1) := by decide +kernel
theorem dX7_vote_5 : decode cX7_vote 5 = .ok (.dup2, 1) := by decide +kernel
theorem dX7_vote_6 : decode cX7_vote 6 = .ok (.iaload, 1) := by decide +kernel
theorem dX7_vote_7 : decode cX7_vote 7 = .ok (.iconst 1, 1) := by decide +kernel
theorem dX7_vote_8 : decode cX7_vote 8 = .ok (.isub, 1) := by decide +kernel
theorem dX7_vote_9 : decode cX7_vote 9 = .ok (.iastore, 1) := by decide +kernel
theorem dX7_vote_10 : decode cX7_vote 10 = .ok (.aload_n 0, 1) := by decide +kernel
theorem dX7_vote_11 : decode cX7_vote 11 = .ok (.getfield 15, 3) := by decide +kernel
theorem dX7_vote_14 : decode cX7_vote 14 = .ok (.iload_n 1, 1) := by decide +kernel
theorem dX7_vote_15 : decode cX7_vote 15 = .ok (.bipush 7, 2) := by decide +kernel
theorem dX7_vote_17 : decode cX7_vote 17 = .ok (.imul, 1) := by decide +kernel
theorem dX7_vote_18 : decode cX7_vote 18 = .ok (.iload_n 2, 1) := by decide +kernel
theorem dX7_vote_19 : decode cX7_vote 19 = .ok (.iadd, 1) := by decide +kernel
theorem dX7_vote_20 : decode cX7_vote 20 = .ok (.dup2, 1) := by decide +kernel
theorem dX7_vote_21 : decode cX7_vote 21 = .ok (.iaload, 1) := by decide +kernel
theorem dX7_vote_22 : decode cX7_vote 22 = .ok (.iconst 1, 1) := by decide +kernel
theorem dX7_vote_23 : decode cX7_vote 23 = .ok (.iadd, 1) := by decide +kernel
theorem dX7_vote_24 : decode cX7_vote 24 = .ok (.iastore, 1) := by decide +kernel
theorem dX7_vote_25 : decode cX7_vote 25 = .ok (.return_, 1) := by decide +kernel
def g_X7_vote (h : zH) (t0 : Nat) (x1 : Int32) (x2 : Int32) : Option zH := zgu (zin x1 7) <| zgu (zin x1 7) <| zlet (zpi h (zR t0 3) (zx x1) ((h.1 (zR t0 3) (zx x1)) - 1)) fun h_3 => zgu (zin ((x1 * 7) + x2) 49) <| zgu (zin ((x1 * 7) + x2) 49) <| zlet (zpi h_3 (zR t0 2) (zx ((x1 * 7) + x2)) ((h_3.1 (zR t0 2) (zx ((x1 * 7) + x2))) + 1)) fun h_6 => some h_6
set_option maxRecDepth 100000 in
set_option maxHeartbeats 4000000 in
theorem b_X7_vote {K : zK} {G : zG} (hK : zC K G cX7_vote RX7 3 0 0 none) {h : zH} {t0 : Nat} {x1 : Int32} {x2 : Int32} (ht0 : zT t0 = (6, 0)) {r : zH} (hE : zE K G (none) r) (hg : g_X7_vote h t0 x1 x2 = some r) : zW K G 3 0 [(0, .ref (G.2.2.2 t0)), (1, .int x1), (2, .int x2)] [] h := by
  rw [g_X7_vote] at hg
  obtain ⟨c_1, hg⟩ := zgu_some hg
  obtain ⟨c_2, hg⟩ := zgu_some hg
  obtain ⟨h_3, eh_3, hg⟩ := zlet_some hg
  obtain ⟨c_4, hg⟩ := zgu_some hg
  obtain ⟨c_5, hg⟩ := zgu_some hg
  obtain ⟨h_6, eh_6, hg⟩ := zlet_some hg
  exact z_aload_n (pc := 0) hK 0 dX7_vote_0 rfl (z_getR (pc := 1) hK f_X7_18_6 ht0 dX7_vote_1 (z_iload_n (pc := 4) hK 1 dX7_vote_4 rfl (z_dup2 (pc := 5) hK dX7_vote_5 rfl rfl (z_iald (pc := 6) hK (zt_6_3 ht0) c_1 dX7_vote_6 (z_iconst (pc := 7) hK dX7_vote_7 zc_i1 (z_isub (pc := 8) hK dX7_vote_8 (z_iast (pc := 9) hK (zt_6_3 ht0) c_2 dX7_vote_9 (z_nameH eh_3 (z_aload_n (pc := 10) hK 0 dX7_vote_10 rfl (z_getR (pc := 11) hK f_X7_15_6 ht0 dX7_vote_11 (z_iload_n (pc := 14) hK 1 dX7_vote_14 rfl (z_bipush (pc := 15) hK dX7_vote_15 zc_b7 (z_imul (pc := 17) hK dX7_vote_17 (z_iload_n (pc := 18) hK 2 dX7_vote_18 rfl (z_iadd (pc := 19) hK dX7_vote_19 (z_dup2 (pc := 20) hK dX7_vote_20 rfl rfl (z_iald (pc := 21) hK (zt_6_2 ht0) c_4 dX7_vote_21 (z_iconst (pc := 22) hK dX7_vote_22 zc_i1 (z_iadd (pc := 23) hK dX7_vote_23 (z_iast (pc := 24) hK (zt_6_2 ht0) c_5 dX7_vote_24 (z_nameH eh_6 (z_vretE (pc := 25) hK hE hg dX7_vote_25))))))))))))))))))))))
theorem m_X7_vote {l : Launch} {G : zG} (hG : zD G) {h : zH} {t0 : Nat} {x1 : Int32} {x2 : Int32} (ht0 : zT t0 = (6, 0)) {r : zH} (hg : g_X7_vote h t0 x1 x2 = some r) : zM l G yX7_vote cX7_vote 3 none 0 0 [.ref (G.2.2.2 t0), .int x1, .int x2] h (none) r :=
  zM_of hG pn_X7 (Nat.le_of_ble_eq_true rfl) (fun K _ hK hE => b_X7_vote hK ht0 hE hg)
theorem dX7_bury_0 : decode cX7_bury 0 = .ok (.aload_n 0, 1) := by decide +kernel
theorem dX7_bury_1 : decode cX7_bury 1 = .ok (.getfield 18, 3) := by decide +kernel
theorem dX7_bury_4 : decode cX7_bury 4 = .ok (.iload_n 1, 1) := by decide +kernel
theorem dX7_bury_5 : decode cX7_bury 5 = .ok (.iaload, 1) := by decide +kernel
theorem dX7_bury_6 : decode cX7_bury 6 = .ok (.istore_n 2, 1) := by decide +kernel
theorem dX7_bury_7 : decode cX7_bury 7 = .ok (.aload_n 0, 1) := by decide +kernel
theorem dX7_bury_8 : decode cX7_bury 8 = .ok (.getfield 21, 3) := by decide +kernel
theorem dX7_bury_11 : decode cX7_bury 11 = .ok (.getfield 116, 3) := by decide +kernel
theorem dX7_bury_14 : decode cX7_bury 14 = .ok (.iload_n 1, 1) := by decide +kernel
theorem dX7_bury_15 : decode cX7_bury 15 = .ok (.iaload, 1) := by decide +kernel
theorem dX7_bury_16 : decode cX7_bury 16 = .ok (.istore_n 3, 1) := by decide +kernel
theorem dX7_bury_17 : decode cX7_bury 17 = .ok (.aload_n 0, 1) := by decide +kernel
theorem dX7_bury_18 : decode cX7_bury 18 = .ok (.getfield 18, 3) := by decide +kernel
theorem dX7_bury_21 : decode cX7_bury 21 = .ok (.iload_n 1, 1) := by decide +kernel
theorem dX7_bury_22 : decode cX7_bury 22 = .ok (.iconst 0, 1) := by decide +kernel
theorem dX7_bury_23 : decode cX7_bury 23 = .ok (.iastore, 1) := by decide +kernel
theorem dX7_bury_24 : decode cX7_bury 24 = .ok (.aload_n 0, 1) := by decide +kernel
theorem dX7_bury_25 : decode cX7_bury 25 = .ok (.dup, 1) := by decide +kernel
theorem dX7_bury_26 : decode cX7_bury 26 = .ok (.getfield 44, 3) := by decide +kernel
theorem dX7_bury_29 : decode cX7_bury 29 = .ok (.iconst 1, 1) := by decide +kernel
theorem dX7_bury_30 : decode cX7_bury 30 = .ok (.iload_n 1, 1) := by decide +kernel
theorem dX7_bury_31 : decode cX7_bury 31 = .ok (.ishl, 1) := by decide +kernel
theorem dX7_bury_32 : decode cX7_bury 32 = .ok (.iconst (-1), 1) := by decide +kernel
theorem dX7_bury_33 : decode cX7_bury 33 = .ok (.ixor, 1) := by decide +kernel
theorem dX7_bury_34 : decode cX7_bury 34 = .ok (.iand, 1) := by decide +kernel
theorem dX7_bury_35 : decode cX7_bury 35 = .ok (.putfield 44, 3) := by decide +kernel
theorem dX7_bury_38 : decode cX7_bury 38 = .ok (.aload_n 0, 1) := by decide +kernel
theorem dX7_bury_39 : decode cX7_bury 39 = .ok (.iload_n 3, 1) := by decide +kernel
theorem dX7_bury_40 : decode cX7_bury 40 = .ok (.invokevirtual 60, 3) := by decide +kernel
theorem dX7_bury_43 : decode cX7_bury 43 = .ok (.ifCond .ne 5, 3) := by decide +kernel
theorem dX7_bury_46 : decode cX7_bury 46 = .ok (.iconst 0, 1) := by decide +kernel
theorem dX7_bury_47 : decode cX7_bury 47 = .ok (.ireturn, 1) := by decide +kernel
theorem dX7_bury_48 : decode cX7_bury 48 = .ok (.aload_n 0, 1) := by decide +kernel
theorem dX7_bury_49 : decode cX7_bury 49 = .ok (.getfield 18, 3) := by decide +kernel
theorem dX7_bury_52 : decode cX7_bury 52 = .ok (.iload_n 3, 1) := by decide +kernel
theorem dX7_bury_53 : decode cX7_bury 53 = .ok (.dup2, 1) := by decide +kernel
theorem dX7_bury_54 : decode cX7_bury 54 = .ok (.iaload, 1) := by decide +kernel
theorem dX7_bury_55 : decode cX7_bury 55 = .ok (.iload_n 2, 1) := by decide +kernel
theorem dX7_bury_56 : decode cX7_bury 56 = .ok (.iadd, 1) := by decide +kernel
theorem dX7_bury_57 : decode cX7_bury 57 = .ok (.iastore, 1) := by decide +kernel
theorem dX7_bury_58 : decode cX7_bury 58 = .ok (.iload_n 2, 1) := by decide +kernel
theorem dX7_bury_59 : decode cX7_bury 59 = .ok (.ireturn, 1) := by decide +kernel
def g_X7_bury (h : zH) (t0 : Nat) (x1 : Int32) : Option (Int32 × zH) := zgu (zin x1 7) <| zlet (h.1 (zR t0 3) (zx x1)) fun v_2 => zgu (zin x1 7) <| zlet (h.1 (zR (zR t0 0) 4) (zx x1)) fun v_4 => zgu (zin x1 7) <| zlet (zpi h (zR t0 3) (zx x1) 0) fun h_6 => zlet (zpi h_6 t0 4 ((h_6.1 t0 4) &&& (((1 : Int32) <<< (x1 &&& 31)) ^^^ (-1)))) fun h_7 => (g_X7_isAlive h_7 t0 v_4).bind fun v_8 => if (zb v_8) = 0 then (some (0, h_7)) else (zgu (zin v_4 7) <| zgu (zin v_4 7) <| zlet (zpi h_7 (zR t0 3) (zx v_4) ((h_7.1 (zR t0 3) (zx v_4)) + v_2)) fun h_12 => some (v_2, h_12))
set_option maxRecDepth 100000 in
set_option maxHeartbeats 4000000 in
theorem b_X7_bury {K : zK} {G : zG} (hK : zC K G cX7_bury RX7 4 1 21 (some .int)) {h : zH} {t0 : Nat} {x1 : Int32} (ht0 : zT t0 = (6, 0)) {r : Int32 × zH} (hE : zE K G (some (.int r.1)) r.2) (hg : g_X7_bury h t0 x1 = some r) : zW K G 4 0 [(0, .ref (G.2.2.2 t0)), (1, .int x1)] [] h := by
  rw [g_X7_bury] at hg
  obtain ⟨c_1, hg⟩ := zgu_some hg
  obtain ⟨v_2, ev_2, hg⟩ := zlet_some hg
  obtain ⟨c_3, hg⟩ := zgu_some hg
  obtain ⟨v_4, ev_4, hg⟩ := zlet_some hg
  obtain ⟨c_5, hg⟩ := zgu_some hg
  obtain ⟨h_6, eh_6, hg⟩ := zlet_some hg
  obtain ⟨h_7, eh_7, hg⟩ := zlet_some hg
  obtain ⟨v_8, qv_8, hg⟩ := zbind_some hg
  refine z_aload_n (pc := 0) hK 0 dX7_bury_0 rfl (z_getR (pc := 1) hK f_X7_18_6 ht0 dX7_bury_1 (z_iload_n (pc := 4) hK 1 dX7_bury_4 rfl (z_iald (pc := 5) hK (zt_6_3 ht0) c_1 dX7_bury_5 (z_nameI ev_2 (z_istore_n (pc := 6) hK (lv' := [(2, .int v_2), (0, .ref (G.2.2.2 t0)), (1, .int x1)]) dX7_bury_6 (by decide) rfl (z_aload_n (pc := 7) hK 1 dX7_bury_7 rfl (z_getR (pc := 8) hK f_X7_21_6 ht0 dX7_bury_8 (z_getR (pc := 11) hK f_X7_116_4 (zt_6_0 ht0) dX7_bury_11 (z_iload_n (pc := 14) hK 2 dX7_bury_14 rfl (z_iald (pc := 15) hK (zt_4_4 (zt_6_0 ht0)) c_3 dX7_bury_15 (z_nameI ev_4 (z_istore_n (pc := 16) hK (lv' := [(3, .int v_4), (2, .int v_2), (0, .ref (G.2.2.2 t0)), (1, .int x1)]) dX7_bury_16 (by decide) rfl (z_aload_n (pc := 17) hK 2 dX7_bury_17 rfl (z_getR (pc := 18) hK f_X7_18_6 ht0 dX7_bury_18 (z_iload_n (pc := 21) hK 3 dX7_bury_21 rfl (z_iconst (pc := 22) hK dX7_bury_22 zc_i0 (z_iast (pc := 23) hK (zt_6_3 ht0) c_5 dX7_bury_23 (z_nameH eh_6 (z_aload_n (pc := 24) hK 2 dX7_bury_24 rfl (z_dup (pc := 25) hK dX7_bury_25 rfl (z_getI (pc := 26) hK f_X7_44_6 ht0 dX7_bury_26 (z_iconst (pc := 29) hK dX7_bury_29 zc_i1 (z_iload_n (pc := 30) hK 3 dX7_bury_30 rfl (z_ishl (pc := 31) hK dX7_bury_31 (z_iconst (pc := 32) hK dX7_bury_32 zc_im1 (z_ixor (pc := 33) hK dX7_bury_33 (z_iand (pc := 34) hK dX7_bury_34 (z_putI (pc := 35) hK f_X7_44_6 fp_6_4 ht0 dX7_bury_35 (z_nameH eh_7 (z_aload_n (pc := 38) hK 2 dX7_bury_38 rfl (z_iload_n (pc := 39) hK 0 dX7_bury_39 rfl (z_callVi (pc := 40) hK [.int v_4] (m_X7_isAlive (zC_D hK) ht0 qv_8) sv_X7_isAlive q_883 ht0 rfl [] rfl (Nat.le_of_ble_eq_true rfl) ⟨by decide, by decide⟩ dX7_bury_40 (z_if_ne (pc := 43) hK 48 dX7_bury_43 (by decide) (fun c_9 => ?_) (fun c_9 => ?_))))))))))))))))))))))))))))))))))
  · rw [if_neg c_9] at hg
    obtain ⟨c_10, hg⟩ := zgu_some hg
    obtain ⟨c_11, hg⟩ := zgu_some hg
    obtain ⟨h_12, eh_12, hg⟩ := zlet_some hg
    exact z_aload_n (pc := 48) hK 2 dX7_bury_48 rfl (z_getR (pc := 49) hK f_X7_18_6 ht0 dX7_bury_49 (z_iload_n (pc := 52) hK 0 dX7_bury_52 rfl (z_dup2 (pc := 53) hK dX7_bury_53 rfl rfl (z_iald (pc := 54) hK (zt_6_3 ht0) c_10 dX7_bury_54 (z_iload_n (pc := 55) hK 1 dX7_bury_55 rfl (z_iadd (pc := 56) hK dX7_bury_56 (z_iast (pc := 57) hK (zt_6_3 ht0) c_11 dX7_bury_57 (z_nameH eh_12 (z_iload_n (pc := 58) hK 1 dX7_bury_58 rfl (z_iretE (pc := 59) hK hE hg dX7_bury_59))))))))))
  · rw [if_pos c_9] at hg
    exact z_iconst (pc := 46) hK dX7_bury_46 zc_i0 (z_iretE (pc := 47) hK hE hg dX7_bury_47)
theorem m_X7_bury {l : Launch} {G : zG} (hG : zD G) {h : zH} {t0 : Nat} {x1 : Int32} (ht0 : zT t0 = (6, 0)) {r : Int32 × zH} (hg : g_X7_bury h t0 x1 = some r) : zM l G yX7_bury cX7_bury 4 (some .int) 1 21 [.ref (G.2.2.2 t0), .int x1] h (some (.int r.1)) r.2 :=
  zM_of hG pn_X7 (Nat.le_of_ble_eq_true rfl) (fun K _ hK hE => b_X7_bury hK ht0 hE hg)
theorem dX7_castsOnDays_0 : decode cX7_castsOnDays 0 = .ok (.aload_n 0, 1) := by decide +kernel
theorem dX7_castsOnDays_1 : decode cX7_castsOnDays 1 = .ok (.iload_n 1, 1) := by decide +kernel
theorem dX7_castsOnDays_2 : decode cX7_castsOnDays 2 = .ok (.invokevirtual 60, 3) := by decide +kernel
theorem dX7_castsOnDays_5 : decode cX7_castsOnDays 5 = .ok (.ifCond .eq 29, 3) := by decide +kernel
theorem dX7_castsOnDays_8 : decode cX7_castsOnDays 8 = .ok (.aload_n 0, 1) := by decide +kernel
theorem dX7_castsOnDays_9 : decode cX7_castsOnDays 9 = .ok (.getfield 18, 3) := by decide +kernel
theorem dX7_castsOnDays_12 : decode cX7_castsOnDays 12 = .ok (.iload_n 1, 1) := by decide +kernel
theorem dX7_castsOnDays_13 : decode cX7_castsOnDays 13 = .ok (.iaload, 1) := by decide +kernel
theorem dX7_castsOnDays_14 : decode cX7_castsOnDays 14 = .ok (.ifCond .le 20, 3) := by decide +kernel
theorem dX7_castsOnDays_17 : decode cX7_castsOnDays 17 = .ok (.aload_n 0, 1) := by decide +kernel
theorem dX7_castsOnDays_18 : decode cX7_castsOnDays 18 = .ok (.getfield 21, 3) := by decide +kernel
theorem dX7_castsOnDays_21 : decode cX7_castsOnDays 21 = .ok (.getfield 85, 3) := by decide +kernel
theorem dX7_castsOnDays_24 : decode cX7_castsOnDays 24 = .ok (.iload_n 1, 1) := by decide +kernel
theorem dX7_castsOnDays_25 : decode cX7_castsOnDays 25 = .ok (.iaload, 1) := by decide +kernel
theorem dX7_castsOnDays_26 : decode cX7_castsOnDays 26 = .ok (.iconst 1, 1) := by decide +kernel
theorem dX7_castsOnDays_27 : decode cX7_castsOnDays 27 = .ok (.if_icmp .eq 7, 3) := by decide +kernel
theorem dX7_castsOnDays_30 : decode cX7_castsOnDays 30 = .ok (.iconst 1, 1) := by decide +kernel
theorem dX7_castsOnDays_31 : decode cX7_castsOnDays 31 = .ok (.goto 4, 3) := by decide +kernel
theorem dX7_castsOnDays_34 : decode cX7_castsOnDays 34 = .ok (.iconst 0, 1) := by decide +kernel
theorem dX7_castsOnDays_35 : decode cX7_castsOnDays 35 = .ok (.ireturn, 1) := by decide +kernel
def g_X7_castsOnDays (h : zH) (t0 : Nat) (x1 : Int32) : Option Bool := (g_X7_isAlive h t0 x1).bind fun v_1 => if (zb v_1) = 0 then (some false) else (zgu (zin x1 7) <| if (h.1 (zR t0 3) (zx x1)) ≤ 0 then (some false) else (zgu (zin x1 7) <| if (h.1 (zR (zR t0 0) 1) (zx x1)) = 1 then (some false) else (some true)))
set_option maxRecDepth 100000 in
set_option maxHeartbeats 4000000 in
theorem b_X7_castsOnDays {K : zK} {G : zG} (hK : zC K G cX7_castsOnDays RX7 2 1 21 (some .boolean)) {h : zH} {t0 : Nat} {x1 : Int32} (ht0 : zT t0 = (6, 0)) {r : Bool} (hE : zE K G (some (.int (zb r))) h) (hg : g_X7_castsOnDays h t0 x1 = some r) : zW K G 2 0 [(0, .ref (G.2.2.2 t0)), (1, .int x1)] [] h := by
  rw [g_X7_castsOnDays] at hg
  obtain ⟨v_1, qv_1, hg⟩ := zbind_some hg
  refine z_aload_n (pc := 0) hK 0 dX7_castsOnDays_0 rfl (z_iload_n (pc := 1) hK 1 dX7_castsOnDays_1 rfl (z_callVi (pc := 2) hK [.int x1] (m_X7_isAlive (zC_D hK) ht0 qv_1) sv_X7_isAlive q_883 ht0 rfl [] rfl (Nat.le_of_ble_eq_true rfl) ⟨by decide, by decide⟩ dX7_castsOnDays_2 (z_if_eq (pc := 5) hK 34 dX7_castsOnDays_5 (by decide) (fun c_2 => ?_) (fun c_2 => ?_))))
  · rw [if_pos c_2] at hg
    exact z_iconst (pc := 34) hK dX7_castsOnDays_34 zc_i0 (z_zretP (pc := 35) hK rfl hE hg dX7_castsOnDays_35)
  · rw [if_neg c_2] at hg
    obtain ⟨c_3, hg⟩ := zgu_some hg
    refine z_aload_n (pc := 8) hK 0 dX7_castsOnDays_8 rfl (z_getR (pc := 9) hK f_X7_18_6 ht0 dX7_castsOnDays_9 (z_iload_n (pc := 12) hK 1 dX7_castsOnDays_12 rfl (z_iald (pc := 13) hK (zt_6_3 ht0) c_3 dX7_castsOnDays_13 (z_if_le (pc := 14) hK 34 dX7_castsOnDays_14 (by decide) (fun c_4 => ?_) (fun c_4 => ?_)))))
    · rw [if_pos c_4] at hg
      exact z_iconst (pc := 34) hK dX7_castsOnDays_34 zc_i0 (z_zretP (pc := 35) hK rfl hE hg dX7_castsOnDays_35)
    · rw [if_neg c_4] at hg
      obtain ⟨c_5, hg⟩ := zgu_some hg
      refine z_aload_n (pc := 17) hK 0 dX7_castsOnDays_17 rfl (z_getR (pc := 18) hK f_X7_21_6 ht0 dX7_castsOnDays_18 (z_getR (pc := 21) hK f_X7_85_4 (zt_6_0 ht0) dX7_castsOnDays_21 (z_iload_n (pc := 24) hK 1 dX7_castsOnDays_24 rfl (z_iald (pc := 25) hK (zt_4_1 (zt_6_0 ht0)) c_5 dX7_castsOnDays_25 (z_iconst (pc := 26) hK dX7_castsOnDays_26 zc_i1 (z_icmp_eq (pc := 27) hK 34 dX7_castsOnDays_27 (by decide) (fun c_6 => ?_) (fun c_6 => ?_)))))))
      · rw [if_pos c_6] at hg
        exact z_iconst (pc := 34) hK dX7_castsOnDays_34 zc_i0 (z_zretP (pc := 35) hK rfl hE hg dX7_castsOnDays_35)
      · rw [if_neg c_6] at hg
        exact z_iconst (pc := 30) hK dX7_castsOnDays_30 zc_i1 (z_goto (pc := 31) hK 35 dX7_castsOnDays_31 (by decide) (z_zretP (pc := 35) hK rfl hE hg dX7_castsOnDays_35))
theorem m_X7_castsOnDays {l : Launch} {G : zG} (hG : zD G) {h : zH} {t0 : Nat} {x1 : Int32} (ht0 : zT t0 = (6, 0)) {r : Bool} (hg : g_X7_castsOnDays h t0 x1 = some r) : zM l G yX7_castsOnDays cX7_castsOnDays 2 (some .boolean) 1 21 [.ref (G.2.2.2 t0), .int x1] h (some (.int (zb r))) h :=
  zM_of hG pn_X7 (Nat.le_of_ble_eq_true rfl) (fun K _ hK hE => b_X7_castsOnDays hK ht0 hE hg)
theorem dX7_worst_0 : decode cX7_worst 0 = .ok (.iconst (-1), 1) := by decide +kernel
theorem dX7_worst_1 : decode cX7_worst 1 = .ok (.istore_n 2, 1) := by decide +kernel
theorem dX7_worst_2 : decode cX7_worst 2 = .ok (.iconst (-1), 1) := by decide +kernel
theorem dX7_worst_3 : decode cX7_worst 3 = .ok (.istore_n 3, 1) := by decide +kernel
theorem dX7_worst_4 : decode cX7_worst 4 = .ok (.iconst 0, 1) := by decide +kernel
theorem dX7_worst_5 : decode cX7_worst 5 = .ok (.istore 4, 2) := by decide +kernel
theorem dX7_worst_7 : decode cX7_worst 7 = .ok (.iload 4, 2) := by decide +kernel
theorem dX7_worst_9 : decode cX7_worst 9 = .ok (.aload_n 0, 1) := by decide +kernel
theorem dX7_worst_10 : decode cX7_worst 10 = .ok (.getfield 21, 3) := by decide +kernel
theorem dX7_worst_13 : decode cX7_worst 13 = .ok (.getfield 40, 3) := by decide +kernel
theorem dX7_worst_16 : decode cX7_worst 16 = .ok (.if_icmp .ge 50, 3) := by decide +kernel
theorem dX7_worst_19 : decode cX7_worst 19 = .ok (.aload_n 0, 1) := by decide +kernel
theorem dX7_worst_20 : decode cX7_worst 20 = .ok (.getfield 9, 3) := by decide +kernel
theorem dX7_worst_23 : decode cX7_worst 23 = .ok (.iload_n 1, 1) := by decide +kernel
theorem dX7_worst_24 : decode cX7_worst 24 = .ok (.bipush 7, 2) := by decide +kernel
theorem dX7_worst_26 : decode cX7_worst 26 = .ok (.imul, 1) := by decide +kernel
theorem dX7_worst_27 : decode cX7_worst 27 = .ok (.iload 4, 2) := by decide +kernel
theorem dX7_worst_29 : decode cX7_worst 29 = .ok (.iadd, 1) := by decide +kernel
theorem dX7_worst_30 : decode cX7_worst 30 = .ok (.iaload, 1) := by decide +kernel
theorem dX7_worst_31 : decode cX7_worst 31 = .ok (.istore 5, 2) := by decide +kernel
theorem dX7_worst_33 : decode cX7_worst 33 = .ok (.iload 4, 2) := by decide +kernel
theorem dX7_worst_35 : decode cX7_worst 35 = .ok (.iload_n 1, 1) := by decide +kernel
theorem dX7_worst_36 : decode cX7_worst 36 = .ok (.if_icmp .eq 24, 3) := by decide +kernel
theorem dX7_worst_39 : decode cX7_worst 39 = .ok (.aload_n 0, 1) := by decide +kernel
theorem dX7_worst_40 : decode cX7_worst 40 = .ok (.iload 4, 2) := by decide +kernel
theorem dX7_worst_42 : decode cX7_worst 42 = .ok (.invokevirtual 60, 3) := by decide +kernel
theorem dX7_worst_45 : decode cX7_worst 45 = .ok (.ifCond .eq 15, 3) := by decide +kernel
theorem dX7_worst_48 : decode cX7_worst 48 = .ok (.iload 5, 2) := by decide +kernel
theorem dX7_worst_50 : decode cX7_worst 50 = .ok (.iload_n 3, 1) := by decide +kernel
theorem dX7_worst_51 : decode cX7_worst 51 = .ok (.if_icmp .le 9, 3) := by decide +kernel
theorem dX7_worst_54 : decode cX7_worst 54 = .ok (.iload 4, 2) := by decide +kernel
theorem dX7_worst_56 : decode cX7_worst 56 = .ok (.istore_n 2, 1) := by decide +kernel
theorem dX7_worst_57 : decode cX7_worst 57 = .ok (.iload 5, 2) := by decide +kernel
theorem dX7_worst_59 : decode cX7_worst 59 = .ok (.istore_n 3, 1) := by decide +kernel
theorem dX7_worst_60 : decode cX7_worst 60 = .ok (.iinc 4 1, 3) := by decide +kernel
theorem dX7_worst_63 : decode cX7_worst 63 = .ok (.goto (-56), 3) := by decide +kernel
theorem dX7_worst_66 : decode cX7_worst 66 = .ok (.iload_n 2, 1) := by decide +kernel
theorem dX7_worst_67 : decode cX7_worst 67 = .ok (.ireturn, 1) := by decide +kernel
def g_X7_worst_7 (h : zH) (t0 : Nat)  : Nat → Int32 → Int32 → Int32 → Int32 → Option Int32
  | 0, _, _, _, _ => none
  | n + 1, x1, x2, x3, x4 => if (h.1 (zR t0 0) 7) ≤ x4 then (some x2) else (zgu (zin ((x1 * 7) + x4) 49) <| zlet (h.1 (zR t0 1) (zx ((x1 * 7) + x4))) fun v_3 => if x4 = x1 then (g_X7_worst_7 h t0 n x1 x2 x3 (x4 + 1)) else ((g_X7_isAlive h t0 x4).bind fun v_5 => if (zb v_5) = 0 then (g_X7_worst_7 h t0 n x1 x2 x3 (x4 + 1)) else (if v_3 ≤ x3 then (g_X7_worst_7 h t0 n x1 x2 x3 (x4 + 1)) else (g_X7_worst_7 h t0 n x1 x4 v_3 (x4 + 1)))))
def g_X7_worst (h : zH) (t0 : Nat) (x1 : Int32) : Option Int32 := g_X7_worst_7 h t0 zfu x1 (-1) (-1) 0
set_option maxRecDepth 100000 in
set_option maxHeartbeats 4000000 in
theorem b_X7_worst_7 {K : zK} {G : zG} (hK : zC K G cX7_worst RX7 6 1 21 (some .int)) {h : zH} {t0 : Nat} (ht0 : zT t0 = (6, 0)) {r : Int32} (hE : zE K G (some (.int r)) h) : ∀ (n : Nat) (x1 : Int32) (x2 : Int32) (x3 : Int32) (x4 : Int32), g_X7_worst_7 h t0 n x1 x2 x3 x4 = some r → zW K G 6 7 [(0, .ref (G.2.2.2 t0)), (1, .int x1), (2, .int x2), (3, .int x3), (4, .int x4)] [] h := by
  intro n
  induction n with
  | zero => intro x1 x2 x3 x4 hg; exact nomatch (show none = some r from hg)
  | succ n ih =>
    intro x1 x2 x3 x4 hg
    rw [g_X7_worst_7] at hg
    refine z_iload (pc := 7) hK 4 dX7_worst_7 rfl (z_aload_n (pc := 9) hK 0 dX7_worst_9 rfl (z_getR (pc := 10) hK f_X7_21_6 ht0 dX7_worst_10 (z_getI (pc := 13) hK f_X7_40_4 (zt_6_0 ht0) dX7_worst_13 (z_icmp_ge (pc := 16) hK 66 dX7_worst_16 (by decide) (fun c_1 => ?_) (fun c_1 => ?_)))))
    · rw [if_pos c_1] at hg
      exact z_iload_n (pc := 66) hK 2 dX7_worst_66 rfl (z_iretP (pc := 67) hK hE hg dX7_worst_67)
    · rw [if_neg c_1] at hg
      obtain ⟨c_2, hg⟩ := zgu_some hg
      obtain ⟨v_3, ev_3, hg⟩ := zlet_some hg
      refine z_aload_n (pc := 19) hK 0 dX7_worst_19 rfl (z_getR (pc := 20) hK f_X7_9_6 ht0 dX7_worst_20 (z_iload_n (pc := 23) hK 1 dX7_worst_23 rfl (z_bipush (pc := 24) hK dX7_worst_24 zc_b7 (z_imul (pc := 26) hK dX7_worst_26 (z_iload (pc := 27) hK 4 dX7_worst_27 rfl (z_iadd (pc := 29) hK dX7_worst_29 (z_iald (pc := 30) hK (zt_6_1 ht0) c_2 dX7_worst_30 (z_nameI ev_3 (z_istore (pc := 31) hK (lv' := [(5, .int v_3), (0, .ref (G.2.2.2 t0)), (1, .int x1), (2, .int x2), (3, .int x3), (4, .int x4)]) dX7_worst_31 (by decide) rfl (z_iload (pc := 33) hK 5 dX7_worst_33 rfl (z_iload_n (pc := 35) hK 2 dX7_worst_35 rfl (z_icmp_eq (pc := 36) hK 60 dX7_worst_36 (by decide) (fun c_4 => ?_) (fun c_4 => ?_)))))))))))))
      · rw [if_pos c_4] at hg
        exact z_iinc (pc := 60) hK 5 (lv' := [(4, .int (x4 + 1)), (5, .int v_3), (0, .ref (G.2.2.2 t0)), (1, .int x1), (2, .int x2), (3, .int x3)]) dX7_worst_60 rfl (zc_n1 _) (by decide) rfl (z_goto (pc := 63) hK 7 dX7_worst_63 (by decide) (zsub (lv' := [(0, .ref (G.2.2.2 t0)), (1, .int x1), (2, .int x2), (3, .int x3), (4, .int (x4 + 1))]) [2, 3, 4, 5, 0] rfl (ih x1 x2 x3 (x4 + 1) hg)))
      · rw [if_neg c_4] at hg
        obtain ⟨v_5, qv_5, hg⟩ := zbind_some hg
        refine z_aload_n (pc := 39) hK 1 dX7_worst_39 rfl (z_iload (pc := 40) hK 5 dX7_worst_40 rfl (z_callVi (pc := 42) hK [.int x4] (m_X7_isAlive (zC_D hK) ht0 qv_5) sv_X7_isAlive q_883 ht0 rfl [] rfl (Nat.le_of_ble_eq_true rfl) ⟨by decide, by decide⟩ dX7_worst_42 (z_if_eq (pc := 45) hK 60 dX7_worst_45 (by decide) (fun c_6 => ?_) (fun c_6 => ?_))))
        · rw [if_pos c_6] at hg
          exact z_iinc (pc := 60) hK 5 (lv' := [(4, .int (x4 + 1)), (5, .int v_3), (0, .ref (G.2.2.2 t0)), (1, .int x1), (2, .int x2), (3, .int x3)]) dX7_worst_60 rfl (zc_n1 _) (by decide) rfl (z_goto (pc := 63) hK 7 dX7_worst_63 (by decide) (zsub (lv' := [(0, .ref (G.2.2.2 t0)), (1, .int x1), (2, .int x2), (3, .int x3), (4, .int (x4 + 1))]) [2, 3, 4, 5, 0] rfl (ih x1 x2 x3 (x4 + 1) hg)))
        · rw [if_neg c_6] at hg
          refine z_iload (pc := 48) hK 0 dX7_worst_48 rfl (z_iload_n (pc := 50) hK 4 dX7_worst_50 rfl (z_icmp_le (pc := 51) hK 60 dX7_worst_51 (by decide) (fun c_7 => ?_) (fun c_7 => ?_)))
          · rw [if_pos c_7] at hg
            exact z_iinc (pc := 60) hK 5 (lv' := [(4, .int (x4 + 1)), (5, .int v_3), (0, .ref (G.2.2.2 t0)), (1, .int x1), (2, .int x2), (3, .int x3)]) dX7_worst_60 rfl (zc_n1 _) (by decide) rfl (z_goto (pc := 63) hK 7 dX7_worst_63 (by decide) (zsub (lv' := [(0, .ref (G.2.2.2 t0)), (1, .int x1), (2, .int x2), (3, .int x3), (4, .int (x4 + 1))]) [2, 3, 4, 5, 0] rfl (ih x1 x2 x3 (x4 + 1) hg)))
          · rw [if_neg c_7] at hg
            exact z_iload (pc := 54) hK 5 dX7_worst_54 rfl (z_istore_n (pc := 56) hK (lv' := [(2, .int x4), (5, .int v_3), (0, .ref (G.2.2.2 t0)), (1, .int x1), (3, .int x3), (4, .int x4)]) dX7_worst_56 (by decide) rfl (z_iload (pc := 57) hK 1 dX7_worst_57 rfl (z_istore_n (pc := 59) hK (lv' := [(3, .int v_3), (2, .int x4), (5, .int v_3), (0, .ref (G.2.2.2 t0)), (1, .int x1), (4, .int x4)]) dX7_worst_59 (by decide) rfl (z_iinc (pc := 60) hK 5 (lv' := [(4, .int (x4 + 1)), (3, .int v_3), (2, .int x4), (5, .int v_3), (0, .ref (G.2.2.2 t0)), (1, .int x1)]) dX7_worst_60 rfl (zc_n1 _) (by decide) rfl (z_goto (pc := 63) hK 7 dX7_worst_63 (by decide) (zsub (lv' := [(0, .ref (G.2.2.2 t0)), (1, .int x1), (2, .int x4), (3, .int v_3), (4, .int (x4 + 1))]) [4, 5, 2, 1, 0] rfl (ih x1 x4 v_3 (x4 + 1) hg)))))))
set_option maxRecDepth 100000 in
set_option maxHeartbeats 4000000 in
theorem b_X7_worst {K : zK} {G : zG} (hK : zC K G cX7_worst RX7 6 1 21 (some .int)) {h : zH} {t0 : Nat} {x1 : Int32} (ht0 : zT t0 = (6, 0)) {r : Int32} (hE : zE K G (some (.int r)) h) (hg : g_X7_worst h t0 x1 = some r) : zW K G 6 0 [(0, .ref (G.2.2.2 t0)), (1, .int x1)] [] h := by
  rw [g_X7_worst] at hg
  exact z_iconst (pc := 0) hK dX7_worst_0 zc_im1 (z_istore_n (pc := 1) hK (lv' := [(2, .int (-1)), (0, .ref (G.2.2.2 t0)), (1, .int x1)]) dX7_worst_1 (by decide) rfl (z_iconst (pc := 2) hK dX7_worst_2 zc_im1 (z_istore_n (pc := 3) hK (lv' := [(3, .int (-1)), (2, .int (-1)), (0, .ref (G.2.2.2 t0)), (1, .int x1)]) dX7_worst_3 (by decide) rfl (z_iconst (pc := 4) hK dX7_worst_4 zc_i0 (z_istore (pc := 5) hK (lv' := [(4, .int 0), (3, .int (-1)), (2, .int (-1)), (0, .ref (G.2.2.2 t0)), (1, .int x1)]) dX7_worst_5 (by decide) rfl (zsub (lv' := [(0, .ref (G.2.2.2 t0)), (1, .int x1), (2, .int (-1)), (3, .int (-1)), (4, .int 0)]) [3, 4, 2, 1, 0] rfl (b_X7_worst_7 hK ht0 hE zfu x1 (-1) (-1) 0 hg)))))))
theorem m_X7_worst {l : Launch} {G : zG} (hG : zD G) {h : zH} {t0 : Nat} {x1 : Int32} (ht0 : zT t0 = (6, 0)) {r : Int32} (hg : g_X7_worst h t0 x1 = some r) : zM l G yX7_worst cX7_worst 6 (some .int) 1 21 [.ref (G.2.2.2 t0), .int x1] h (some (.int r)) h :=
  zM_of hG pn_X7 (Nat.le_of_ble_eq_true rfl) (fun K _ hK hE => b_X7_worst hK ht0 hE hg)
theorem dX7_target_0 : decode cX7_target 0 = .ok (.aload_n 0, 1) := by decide +kernel
theorem dX7_target_1 : decode cX7_target 1 = .ok (.iload_n 1, 1) := by decide +kernel
theorem dX7_target_2 : decode cX7_target 2 = .ok (.invokevirtual 151, 3) := by decide +kernel
theorem dX7_target_5 : decode cX7_target 5 = .ok (.ifCond .ne 5, 3) := by decide +kernel
theorem dX7_target_8 : decode cX7_target 8 = .ok (.iconst (-1), 1) := by decide +kernel
theorem dX7_target_9 : decode cX7_target 9 = .ok (.ireturn, 1) := by decide +kernel
theorem dX7_target_10 : decode cX7_target 10 = .ok (.aload_n 0, 1) := by decide +kernel
theorem dX7_target_11 : decode cX7_target 11 = .ok (.iload_n 1, 1) := by decide +kernel
theorem dX7_target_12 : decode cX7_target 12 = .ok (.invokevirtual 154, 3) := by decide +kernel
theorem dX7_target_15 : decode cX7_target 15 = .ok (.istore_n 3, 1) := by decide +kernel
theorem dX7_target_16 : decode cX7_target 16 = .ok (.iload_n 3, 1) := by decide +kernel
theorem dX7_target_17 : decode cX7_target 17 = .ok (.iconst (-1), 1) := by decide +kernel
theorem dX7_target_18 : decode cX7_target 18 = .ok (.if_icmp .eq 26, 3) := by decide +kernel
theorem dX7_target_21 : decode cX7_target 21 = .ok (.aload_n 0, 1) := by decide +kernel
theorem dX7_target_22 : decode cX7_target 22 = .ok (.getfield 9, 3) := by decide +kernel
theorem dX7_target_25 : decode cX7_target 25 = .ok (.iload_n 1, 1) := by decide +kernel
theorem dX7_target_26 : decode cX7_target 26 = .ok (.bipush 7, 2) := by decide +kernel
theorem dX7_target_28 : decode cX7_target 28 = .ok (.imul, 1) := by decide +kernel
theorem dX7_target_29 : decode cX7_target 29 = .ok (.iload_n 3, 1) := by decide +kernel
theorem dX7_target_30 : decode cX7_target 30 = .ok (.iadd, 1) := by decide +kernel
theorem dX7_target_31 : decode cX7_target 31 = .ok (.iaload, 1) := by decide +kernel
theorem dX7_target_32 : decode cX7_target 32 = .ok (.aload_n 0, 1) := by decide +kernel
theorem dX7_target_33 : decode cX7_target 33 = .ok (.getfield 21, 3) := by decide +kernel
theorem dX7_target_36 : decode cX7_target 36 = .ok (.iload_n 1, 1) := by decide +kernel
theorem dX7_target_37 : decode cX7_target 37 = .ok (.iload_n 2, 1) := by decide +kernel
theorem dX7_target_38 : decode cX7_target 38 = .ok (.invokevirtual 157, 3) := by decide +kernel
theorem dX7_target_41 : decode cX7_target 41 = .ok (.if_icmp .ge 5, 3) := by decide +kernel
theorem dX7_target_44 : decode cX7_target 44 = .ok (.iconst (-1), 1) := by decide +kernel
theorem dX7_target_45 : decode cX7_target 45 = .ok (.ireturn, 1) := by decide +kernel
theorem dX7_target_46 : decode cX7_target 46 = .ok (.iload_n 3, 1) := by decide +kernel
theorem dX7_target_47 : decode cX7_target 47 = .ok (.ireturn, 1) := by decide +kernel
def g_X7_target (h : zH) (t0 : Nat) (x1 : Int32) (x2 : Int32) : Option Int32 := (g_X7_castsOnDays h t0 x1).bind fun v_1 => if (zb v_1) = 0 then (some (-1)) else ((g_X7_worst h t0 x1).bind fun v_3 => if v_3 = (-1) then (some (-1)) else (zgu (zin ((x1 * 7) + v_3) 49) <| (g_X5_barOf h (zR t0 0) x1 x2).bind fun v_6 => if v_6 ≤ (h.1 (zR t0 1) (zx ((x1 * 7) + v_3))) then (some v_3) else (some (-1))))
set_option maxRecDepth 100000 in
set_option maxHeartbeats 4000000 in
theorem b_X7_target {K : zK} {G : zG} (hK : zC K G cX7_target RX7 4 2 46 (some .int)) {h : zH} {t0 : Nat} {x1 : Int32} {x2 : Int32} (ht0 : zT t0 = (6, 0)) {r : Int32} (hE : zE K G (some (.int r)) h) (hg : g_X7_target h t0 x1 x2 = some r) : zW K G 4 0 [(0, .ref (G.2.2.2 t0)), (1, .int x1), (2, .int x2)] [] h := by
  rw [g_X7_target] at hg
  obtain ⟨v_1, qv_1, hg⟩ := zbind_some hg
  refine z_aload_n (pc := 0) hK 0 dX7_target_0 rfl (z_iload_n (pc := 1) hK 1 dX7_target_1 rfl (z_callVi (pc := 2) hK [.int x1] (m_X7_castsOnDays (zC_D hK) ht0 qv_1) sv_X7_castsOnDays q_1028 ht0 rfl [] rfl (Nat.le_of_ble_eq_true rfl) ⟨by decide, by decide⟩ dX7_target_2 (z_if_ne (pc := 5) hK 10 dX7_target_5 (by decide) (fun c_2 => ?_) (fun c_2 => ?_))))
  · rw [if_neg c_2] at hg
    obtain ⟨v_3, qv_3, hg⟩ := zbind_some hg
    refine z_aload_n (pc := 10) hK 0 dX7_target_10 rfl (z_iload_n (pc := 11) hK 1 dX7_target_11 rfl (z_callVi (pc := 12) hK [.int x1] (m_X7_worst (zC_D hK) ht0 qv_3) sv_X7_worst q_1032 ht0 rfl [] rfl (Nat.le_of_ble_eq_true rfl) ⟨by decide, by decide⟩ dX7_target_12 (z_istore_n (pc := 15) hK (lv' := [(3, .int v_3), (0, .ref (G.2.2.2 t0)), (1, .int x1), (2, .int x2)]) dX7_target_15 (by decide) rfl (z_iload_n (pc := 16) hK 0 dX7_target_16 rfl (z_iconst (pc := 17) hK dX7_target_17 zc_im1 (z_icmp_eq (pc := 18) hK 44 dX7_target_18 (by decide) (fun c_4 => ?_) (fun c_4 => ?_)))))))
    · rw [if_pos c_4] at hg
      exact z_iconst (pc := 44) hK dX7_target_44 zc_im1 (z_iretP (pc := 45) hK hE hg dX7_target_45)
    · rw [if_neg c_4] at hg
      obtain ⟨c_5, hg⟩ := zgu_some hg
      obtain ⟨v_6, qv_6, hg⟩ := zbind_some hg
      refine z_aload_n (pc := 21) hK 1 dX7_target_21 rfl (z_getR (pc := 22) hK f_X7_9_6 ht0 dX7_target_22 (z_iload_n (pc := 25) hK 2 dX7_target_25 rfl (z_bipush (pc := 26) hK dX7_target_26 zc_b7 (z_imul (pc := 28) hK dX7_target_28 (z_iload_n (pc := 29) hK 0 dX7_target_29 rfl (z_iadd (pc := 30) hK dX7_target_30 (z_iald (pc := 31) hK (zt_6_1 ht0) c_5 dX7_target_31 (z_aload_n (pc := 32) hK 1 dX7_target_32 rfl (z_getR (pc := 33) hK f_X7_21_6 ht0 dX7_target_33 (z_iload_n (pc := 36) hK 2 dX7_target_36 rfl (z_iload_n (pc := 37) hK 3 dX7_target_37 rfl (z_callVi (pc := 38) hK [.int x1, .int x2] (m_X5_barOf (zC_D hK) (zt_6_0 ht0) qv_6) sv_X5_barOf q_1036 (zt_6_0 ht0) rfl [.int (h.1 (zR t0 1) (zx ((x1 * 7) + v_3)))] rfl (Nat.le_of_ble_eq_true rfl) ⟨by decide, by decide⟩ dX7_target_38 (z_icmp_ge (pc := 41) hK 46 dX7_target_41 (by decide) (fun c_7 => ?_) (fun c_7 => ?_))))))))))))))
      · rw [if_pos c_7] at hg
        exact z_iload_n (pc := 46) hK 0 dX7_target_46 rfl (z_iretP (pc := 47) hK hE hg dX7_target_47)
      · rw [if_neg c_7] at hg
        exact z_iconst (pc := 44) hK dX7_target_44 zc_im1 (z_iretP (pc := 45) hK hE hg dX7_target_45)
  · rw [if_pos c_2] at hg
    exact z_iconst (pc := 8) hK dX7_target_8 zc_im1 (z_iretP (pc := 9) hK hE hg dX7_target_9)
theorem m_X7_target {l : Launch} {G : zG} (hG : zD G) {h : zH} {t0 : Nat} {x1 : Int32} {x2 : Int32} (ht0 : zT t0 = (6, 0)) {r : Int32} (hg : g_X7_target h t0 x1 x2 = some r) : zM l G yX7_target cX7_target 4 (some .int) 2 46 [.ref (G.2.2.2 t0), .int x1, .int x2] h (some (.int r)) h :=
  zM_of hG pn_X7 (Nat.le_of_ble_eq_true rfl) (fun K _ hK hE => b_X7_target hK ht0 hE hg)
theorem dX7_passDay_0 : decode cX7_passDay 0 = .ok (.iconst 0, 1) := by decide +kernel
theorem dX7_passDay_1 : decode cX7_passDay 1 = .ok (.istore_n 2, 1) := by decide +kernel
theorem dX7_passDay_2 : decode cX7_passDay 2 = .ok (.iconst 0, 1) := by decide +kernel
theorem dX7_passDay_3 : decode cX7_passDay 3 = .ok (.istore_n 3, 1) := by decide +kernel
theorem dX7_passDay_4 : decode cX7_passDay 4 = .ok (.iload_n 3, 1) := by decide +kernel
theorem dX7_passDay_5 : decode cX7_passDay 5 = .ok (.aload_n 0, 1) := by decide +kernel
theorem dX7_passDay_6 : decode cX7_passDay 6 = .ok (.getfield 21, 3) := by decide +kernel
theorem dX7_passDay_9 : decode cX7_passDay 9 = .ok (.getfield 40, 3) := by decide +kernel
theorem dX7_passDay_12 : decode cX7_passDay 12 = .ok (.if_icmp .ge 46, 3) := by decide +kernel
theorem dX7_passDay_15 : decode cX7_passDay 15 = .ok (.aload_n 0, 1) := by decide +kernel
theorem dX7_passDay_16 : decode cX7_passDay 16 = .ok (.iload_n 3, 1) := by decide +kernel
theorem dX7_passDay_17 : decode cX7_passDay 17 = .ok (.iload_n 1, 1) := by decide +kernel
theorem dX7_passDay_18 : decode cX7_passDay 18 = .ok (.invokevirtual 119, 3) := by decide +kernel
theorem dX7_passDay_21 : decode cX7_passDay 21 = .ok (.istore 4, 2) := by decide +kernel
theorem dX7_passDay_23 : decode cX7_passDay 23 = .ok (.iload 4, 2) := by decide +kernel
theorem dX7_passDay_25 : decode cX7_passDay 25 = .ok (.iconst (-1), 1) := by decide +kernel
theorem dX7_passDay_26 : decode cX7_passDay 26 = .ok (.if_icmp .eq 26, 3) := by decide +kernel
theorem dX7_passDay_29 : decode cX7_passDay 29 = .ok (.aload_n 0, 1) := by decide +kernel
theorem dX7_passDay_30 : decode cX7_passDay 30 = .ok (.iload_n 3, 1) := by decide +kernel
theorem dX7_passDay_31 : decode cX7_passDay 31 = .ok (.iload 4, 2) := by decide +kernel
theorem dX7_passDay_33 : decode cX7_passDay 33 = .ok (.invokevirtual 122, 3) := by decide +kernel
theorem dX7_passDay_36 : decode cX7_passDay 36 = .ok (.aload_n 0, 1) := by decide +kernel
theorem dX7_passDay_37 : decode cX7_passDay 37 = .ok (.getfield 9, 3) := by decide +kernel
theorem dX7_passDay_40 : decode cX7_passDay 40 = .ok (.iload_n 3, 1) := by decide +kernel
theorem dX7_passDay_41 : decode cX7_passDay 41 = .ok (.bipush 7, 2) := by decide +kernel
theorem dX7_passDay_43 : decode cX7_passDay 43 = .ok (.imul, 1) := by decide +kernel
theorem dX7_passDay_44 : decode cX7_passDay 44 = .ok (.iload 4, 2) := by decide +kernel
theorem dX7_passDay_46 : decode cX7_passDay 46 = .ok (.iadd, 1) := by decide +kernel
theorem dX7_passDay_47 : decode cX7_passDay 47 = .ok (.iconst 0, 1) := by decide +kernel
theorem dX7_passDay_48 : decode cX7_passDay 48 = .ok (.iastore, 1) := by decide +kernel
theorem dX7_passDay_49 : decode cX7_passDay 49 = .ok (.iinc 2 1, 3) := by decide +kernel
theorem dX7_passDay_52 : decode cX7_passDay 52 = .ok (.iinc 3 1, 3) := by decide +kernel
theorem dX7_passDay_55 : decode cX7_passDay 55 = .ok (.goto (-51), 3) := by decide +kernel
theorem dX7_passDay_58 : decode cX7_passDay 58 = .ok (.aload_n 0, 1) := by decide +kernel
theorem dX7_passDay_59 : decode cX7_passDay 59 = .ok (.dup, 1) := by decide +kernel
theorem dX7_passDay_60 : decode cX7_passDay 60 = .ok (.getfield 47, 3) := by decide +kernel
theorem dX7_passDay_63 : decode cX7_passDay 63 = .ok (.iconst 1, 1) := by decide +kernel
theorem dX7_passDay_64 : decode cX7_passDay 64 = .ok (.iadd, 1) := by decide +kernel
theorem dX7_passDay_65 : decode cX7_passDay 65 = .ok (.putfield 47, 3) := by decide +kernel
theorem dX7_passDay_68 : decode cX7_passDay 68 = .ok (.iload_n 2, 1) := by decide +kernel
theorem dX7_passDay_69 : decode cX7_passDay 69 = .ok (.ireturn, 1) := by decide +kernel
def g_X7_passDay_4 (t0 : Nat)  : Nat → Int32 → Int32 → Int32 → zH → Option (Int32 × zH)
  | 0, _, _, _, _ => none
  | n + 1, x1, x2, x3, h => if (h.1 (zR t0 0) 7) ≤ x3 then (zlet (zpi h t0 5 ((h.1 t0 5) + 1)) fun h_2 => some (x2, h_2)) else ((g_X7_target h t0 x3 x1).bind fun v_3 => if v_3 = (-1) then (g_X7_passDay_4 t0 n x1 x2 (x3 + 1) h) else ((g_X7_vote h t0 x3 v_3).bind fun v_5 => zgu (zin ((x3 * 7) + v_3) 49) <| zlet (zpi v_5 (zR t0 1) (zx ((x3 * 7) + v_3)) 0) fun h_7 => g_X7_passDay_4 t0 n x1 (x2 + 1) (x3 + 1) h_7))
def g_X7_passDay (h : zH) (t0 : Nat) (x1 : Int32) : Option (Int32 × zH) := g_X7_passDay_4 t0 zfu x1 0 0 h
set_option maxRecDepth 100000 in
set_option maxHeartbeats 4000000 in
theorem b_X7_passDay_4 {K : zK} {G : zG} (hK : zC K G cX7_passDay RX7 5 3 69 (some .int)) {t0 : Nat} (ht0 : zT t0 = (6, 0)) {r : Int32 × zH} (hE : zE K G (some (.int r.1)) r.2) : ∀ (n : Nat) (x1 : Int32) (x2 : Int32) (x3 : Int32) (h : zH), g_X7_passDay_4 t0 n x1 x2 x3 h = some r → zW K G 5 4 [(0, .ref (G.2.2.2 t0)), (1, .int x1), (2, .int x2), (3, .int x3)] [] h := by
  intro n
  induction n with
  | zero => intro x1 x2 x3 h hg; exact nomatch (show none = some r from hg)
  | succ n ih =>
    intro x1 x2 x3 h hg
    rw [g_X7_passDay_4] at hg
    refine z_iload_n (pc := 4) hK 3 dX7_passDay_4 rfl (z_aload_n (pc := 5) hK 0 dX7_passDay_5 rfl (z_getR (pc := 6) hK f_X7_21_6 ht0 dX7_passDay_6 (z_getI (pc := 9) hK f_X7_40_4 (zt_6_0 ht0) dX7_passDay_9 (z_icmp_ge (pc := 12) hK 58 dX7_passDay_12 (by decide) (fun c_1 => ?_) (fun c_1 => ?_)))))
    · rw [if_pos c_1] at hg
      obtain ⟨h_2, eh_2, hg⟩ := zlet_some hg
      exact z_aload_n (pc := 58) hK 0 dX7_passDay_58 rfl (z_dup (pc := 59) hK dX7_passDay_59 rfl (z_getI (pc := 60) hK f_X7_47_6 ht0 dX7_passDay_60 (z_iconst (pc := 63) hK dX7_passDay_63 zc_i1 (z_iadd (pc := 64) hK dX7_passDay_64 (z_putI (pc := 65) hK f_X7_47_6 fp_6_5 ht0 dX7_passDay_65 (z_nameH eh_2 (z_iload_n (pc := 68) hK 2 dX7_passDay_68 rfl (z_iretE (pc := 69) hK hE hg dX7_passDay_69))))))))
    · rw [if_neg c_1] at hg
      obtain ⟨v_3, qv_3, hg⟩ := zbind_some hg
      refine z_aload_n (pc := 15) hK 0 dX7_passDay_15 rfl (z_iload_n (pc := 16) hK 3 dX7_passDay_16 rfl (z_iload_n (pc := 17) hK 1 dX7_passDay_17 rfl (z_callVi (pc := 18) hK [.int x3, .int x1] (m_X7_target (zC_D hK) ht0 qv_3) sv_X7_target q_1024 ht0 rfl [] rfl (Nat.le_of_ble_eq_true rfl) ⟨by decide, by decide⟩ dX7_passDay_18 (z_istore (pc := 21) hK (lv' := [(4, .int v_3), (0, .ref (G.2.2.2 t0)), (1, .int x1), (2, .int x2), (3, .int x3)]) dX7_passDay_21 (by decide) rfl (z_iload (pc := 23) hK 0 dX7_passDay_23 rfl (z_iconst (pc := 25) hK dX7_passDay_25 zc_im1 (z_icmp_eq (pc := 26) hK 52 dX7_passDay_26 (by decide) (fun c_4 => ?_) (fun c_4 => ?_))))))))
      · rw [if_pos c_4] at hg
        exact z_iinc (pc := 52) hK 4 (lv' := [(3, .int (x3 + 1)), (4, .int v_3), (0, .ref (G.2.2.2 t0)), (1, .int x1), (2, .int x2)]) dX7_passDay_52 rfl (zc_n1 _) (by decide) rfl (z_goto (pc := 55) hK 4 dX7_passDay_55 (by decide) (zsub (lv' := [(0, .ref (G.2.2.2 t0)), (1, .int x1), (2, .int x2), (3, .int (x3 + 1))]) [2, 3, 4, 0] rfl (ih x1 x2 (x3 + 1) h hg)))
      · rw [if_neg c_4] at hg
        obtain ⟨v_5, qv_5, hg⟩ := zbind_some hg
        obtain ⟨c_6, hg⟩ := zgu_some hg
        obtain ⟨h_7, eh_7, hg⟩ := zlet_some hg
        exact z_aload_n (pc := 29) hK 1 dX7_passDay_29 rfl (z_iload_n (pc := 30) hK 4 dX7_passDay_30 rfl (z_iload (pc := 31) hK 0 dX7_passDay_31 rfl (z_callVv (pc := 33) hK [.int x3, .int v_3] (m_X7_vote (zC_D hK) ht0 qv_5) sv_X7_vote q_1041 ht0 rfl [] rfl (Nat.le_of_ble_eq_true rfl) ⟨by decide, by decide⟩ dX7_passDay_33 (z_aload_n (pc := 36) hK 1 dX7_passDay_36 rfl (z_getR (pc := 37) hK f_X7_9_6 ht0 dX7_passDay_37 (z_iload_n (pc := 40) hK 4 dX7_passDay_40 rfl (z_bipush (pc := 41) hK dX7_passDay_41 zc_b7 (z_imul (pc := 43) hK dX7_passDay_43 (z_iload (pc := 44) hK 0 dX7_passDay_44 rfl (z_iadd (pc := 46) hK dX7_passDay_46 (z_iconst (pc := 47) hK dX7_passDay_47 zc_i0 (z_iast (pc := 48) hK (zt_6_1 ht0) c_6 dX7_passDay_48 (z_nameH eh_7 (z_iinc (pc := 49) hK 3 (lv' := [(2, .int (x2 + 1)), (4, .int v_3), (0, .ref (G.2.2.2 t0)), (1, .int x1), (3, .int x3)]) dX7_passDay_49 rfl (zc_n1 _) (by decide) rfl (z_iinc (pc := 52) hK 4 (lv' := [(3, .int (x3 + 1)), (2, .int (x2 + 1)), (4, .int v_3), (0, .ref (G.2.2.2 t0)), (1, .int x1)]) dX7_passDay_52 rfl (zc_n1 _) (by decide) rfl (z_goto (pc := 55) hK 4 dX7_passDay_55 (by decide) (zsub (lv' := [(0, .ref (G.2.2.2 t0)), (1, .int x1), (2, .int (x2 + 1)), (3, .int (x3 + 1))]) [3, 4, 1, 0] rfl (ih x1 (x2 + 1) (x3 + 1) h_7 hg))))))))))))))))))
set_option maxRecDepth 100000 in
set_option maxHeartbeats 4000000 in
theorem b_X7_passDay {K : zK} {G : zG} (hK : zC K G cX7_passDay RX7 5 3 69 (some .int)) {h : zH} {t0 : Nat} {x1 : Int32} (ht0 : zT t0 = (6, 0)) {r : Int32 × zH} (hE : zE K G (some (.int r.1)) r.2) (hg : g_X7_passDay h t0 x1 = some r) : zW K G 5 0 [(0, .ref (G.2.2.2 t0)), (1, .int x1)] [] h := by
  rw [g_X7_passDay] at hg
  exact z_iconst (pc := 0) hK dX7_passDay_0 zc_i0 (z_istore_n (pc := 1) hK (lv' := [(2, .int 0), (0, .ref (G.2.2.2 t0)), (1, .int x1)]) dX7_passDay_1 (by decide) rfl (z_iconst (pc := 2) hK dX7_passDay_2 zc_i0 (z_istore_n (pc := 3) hK (lv' := [(3, .int 0), (2, .int 0), (0, .ref (G.2.2.2 t0)), (1, .int x1)]) dX7_passDay_3 (by decide) rfl (zsub (lv' := [(0, .ref (G.2.2.2 t0)), (1, .int x1), (2, .int 0), (3, .int 0)]) [2, 3, 1, 0] rfl (b_X7_passDay_4 hK ht0 hE zfu x1 0 0 h hg)))))
theorem m_X7_passDay {l : Launch} {G : zG} (hG : zD G) {h : zH} {t0 : Nat} {x1 : Int32} (ht0 : zT t0 = (6, 0)) {r : Int32 × zH} (hg : g_X7_passDay h t0 x1 = some r) : zM l G yX7_passDay cX7_passDay 5 (some .int) 3 69 [.ref (G.2.2.2 t0), .int x1] h (some (.int r.1)) r.2 :=
  zM_of hG pn_X7 (Nat.le_of_ble_eq_true rfl) (fun K _ hK hE => b_X7_passDay hK ht0 hE hg)
