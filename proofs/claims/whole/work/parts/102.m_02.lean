theorem dX1_easing_0 : decode cX1_easing 0 = .ok (.aload_n 0, 1) := by decide +kernel
theorem dX1_easing_1 : decode cX1_easing 1 = .ok (.getfield 30, 3) := by decide +kernel
theorem dX1_easing_4 : decode cX1_easing 4 = .ok (.aload_n 0, 1) := by decide +kernel
theorem dX1_easing_5 : decode cX1_easing 5 = .ok (.getfield 33, 3) := by decide +kernel
theorem dX1_easing_8 : decode cX1_easing 8 = .ok (.if_icmp .ne 5, 3) := by decide +kernel
theorem dX1_easing_11 : decode cX1_easing 11 = .ok (.iconst 2, 1) := by decide +kernel
theorem dX1_easing_12 : decode cX1_easing 12 = .ok (.ireturn, 1) := by decide +kernel
theorem dX1_easing_13 : decode cX1_easing 13 = .ok (.iconst 0, 1) := by decide +kernel
theorem dX1_easing_14 : decode cX1_easing 14 = .ok (.bipush 9, 2) := by decide +kernel
theorem dX1_easing_16 : decode cX1_easing 16 = .ok (.aload_n 0, 1) := by decide +kernel
theorem dX1_easing_17 : decode cX1_easing 17 = .ok (.aload_n 0, 1) := by decide +kernel
theorem dX1_easing_18 : decode cX1_easing 18 = .ok (.getfield 30, 3) := by decide +kernel
theorem dX1_easing_21 : decode cX1_easing 21 = .ok (.aload_n 0, 1) := by decide +kernel
theorem dX1_easing_22 : decode cX1_easing 22 = .ok (.getfield 33, 3) := by decide +kernel
theorem dX1_easing_25 : decode cX1_easing 25 = .ok (.invokevirtual 58, 3) := by decide +kernel
theorem dX1_easing_28 : decode cX1_easing 28 = .ok (.invokestatic 62, 3) := by decide +kernel
theorem dX1_easing_31 : decode cX1_easing 31 = .ok (.invokestatic 67, 3) := by decide +kernel
theorem dX1_easing_34 : decode cX1_easing 34 = .ok (.ireturn, 1) := by decide +kernel
def g_X1_easing (h : zH) (t0 : Nat) : Option (Int32 × zH) := if (h.1 t0 10) = (h.1 t0 11) then (some (2, h)) else ((g_X1_worth h t0 (h.1 t0 10) (h.1 t0 11)).bind fun v_2 => some (if 0 < (if v_2.1 < 9 then v_2.1 else 9) then (if v_2.1 < 9 then v_2.1 else 9) else 0, v_2.2))
set_option maxRecDepth 100000 in
set_option maxHeartbeats 4000000 in
theorem b_X1_easing {K : zK} {G : zG} (hK : zC K G cX1_easing RX1 1 2 48 (some .int)) {h : zH} {t0 : Nat} (ht0 : zT t0 = (1, 0)) {r : Int32 × zH} (hE : zE K G (some (.int r.1)) r.2) (hg : g_X1_easing h t0 = some r) : zW K G 1 0 [(0, .ref (G.2.2.2 t0))] [] h := by
  rw [g_X1_easing] at hg
  refine z_aload_n (pc := 0) hK 0 dX1_easing_0 rfl (z_getI (pc := 1) hK f_X1_30_1 ht0 dX1_easing_1 (z_aload_n (pc := 4) hK 0 dX1_easing_4 rfl (z_getI (pc := 5) hK f_X1_33_1 ht0 dX1_easing_5 (z_icmp_ne (pc := 8) hK 13 dX1_easing_8 (by decide) (fun c_1 => ?_) (fun c_1 => ?_)))))
  · rw [if_neg c_1] at hg
    obtain ⟨v_2, qv_2, hg⟩ := zbind_some hg
    exact z_iconst (pc := 13) hK dX1_easing_13 zc_i0 (z_bipush (pc := 14) hK dX1_easing_14 zc_b9 (z_aload_n (pc := 16) hK 0 dX1_easing_16 rfl (z_aload_n (pc := 17) hK 0 dX1_easing_17 rfl (z_getI (pc := 18) hK f_X1_30_1 ht0 dX1_easing_18 (z_aload_n (pc := 21) hK 0 dX1_easing_21 rfl (z_getI (pc := 22) hK f_X1_33_1 ht0 dX1_easing_22 (z_callVi (pc := 25) hK [.int (h.1 t0 10), .int (h.1 t0 11)] (m_X1_worth (zC_D hK) ht0 qv_2) sv_X1_worth q_957 ht0 rfl [.int 9, .int 0] rfl (Nat.le_of_ble_eq_true rfl) ⟨by decide, by decide⟩ dX1_easing_25 (z_mmin (pc := 28) hK q_976 zw_min ⟨by decide, Nat.le_of_ble_eq_true rfl⟩ dX1_easing_28 (z_mmax (pc := 31) hK q_977 zw_max ⟨by decide, Nat.le_of_ble_eq_true rfl⟩ dX1_easing_31 (z_iretE (pc := 34) hK hE hg dX1_easing_34))))))))))
  · rw [if_pos c_1] at hg
    exact z_iconst (pc := 11) hK dX1_easing_11 zc_i2 (z_iretE (pc := 12) hK hE hg dX1_easing_12)
theorem m_X1_easing {l : Launch} {G : zG} (hG : zD G) {h : zH} {t0 : Nat} (ht0 : zT t0 = (1, 0)) {r : Int32 × zH} (hg : g_X1_easing h t0 = some r) : zM l G yX1_easing cX1_easing 1 (some .int) 2 48 [.ref (G.2.2.2 t0)] h (some (.int r.1)) r.2 :=
  zM_of hG pn_X1 (Nat.le_of_ble_eq_true rfl) (fun K _ hK hE => b_X1_easing hK ht0 hE hg)
theorem dJ7_fill_53178_0 : decode cJ7_fill_53178 0 = .ok (.iconst 0, 1) := by decide +kernel
theorem dJ7_fill_53178_1 : decode cJ7_fill_53178 1 = .ok (.istore_n 2, 1) := by decide +kernel
theorem dJ7_fill_53178_2 : decode cJ7_fill_53178 2 = .ok (.aload_n 0, 1) := by decide +kernel
theorem dJ7_fill_53178_3 : decode cJ7_fill_53178 3 = .ok (.arraylength, 1) := by decide +kernel
theorem dJ7_fill_53178_4 : decode cJ7_fill_53178 4 = .ok (.istore_n 3, 1) := by decide +kernel
theorem dJ7_fill_53178_5 : decode cJ7_fill_53178 5 = .ok (.iload_n 2, 1) := by decide +kernel
theorem dJ7_fill_53178_6 : decode cJ7_fill_53178 6 = .ok (.iload_n 3, 1) := by decide +kernel
theorem dJ7_fill_53178_7 : decode cJ7_fill_53178 7 = .ok (.if_icmp .ge 13, 3) := by decide +kernel
theorem dJ7_fill_53178_10 : decode cJ7_fill_53178 10 = .ok (.aload_n 0, 1) := by decide +kernel
theorem dJ7_fill_53178_11 : decode cJ7_fill_53178 11 = .ok (.iload_n 2, 1) := by decide +kernel
theorem dJ7_fill_53178_12 : decode cJ7_fill_53178 12 = .ok (.iload_n 1, 1) := by decide +kernel
theorem dJ7_fill_53178_13 : decode cJ7_fill_53178 13 = .ok (.iastore, 1) := by decide +kernel
theorem dJ7_fill_53178_14 : decode cJ7_fill_53178 14 = .ok (.iinc 2 1, 3) := by decide +kernel
theorem dJ7_fill_53178_17 : decode cJ7_fill_53178 17 = .ok (.goto (-12), 3) := by decide +kernel
theorem dJ7_fill_53178_20 : decode cJ7_fill_53178 20 = .ok (.return_, 1) := by decide +kernel
def g_J7_fill_53178_5 (t0 : Nat) (n0 : Nat)  : Nat → Int32 → Int32 → Int32 → zH → Option zH
  | 0, _, _, _, _ => none
  | n + 1, x1, x2, x3, h => if x3 ≤ x2 then (some h) else (zgu (zin x2 n0) <| zlet (zpi h t0 (zx x2) x1) fun h_4 => g_J7_fill_53178_5 t0 n0 n x1 (x2 + 1) x3 h_4)
def g_J7_fill_53178 (h : zH) (t0 : Nat) (n0 : Nat) (x1 : Int32) : Option zH := zlet (Int32.ofNat n0) fun v_1 => g_J7_fill_53178_5 t0 n0 zfu x1 0 v_1 h
set_option maxRecDepth 100000 in
set_option maxHeartbeats 4000000 in
theorem b_J7_fill_53178_5 {K : zK} {G : zG} (hK : zC K G cJ7_fill_53178 RJ7 4 0 0 none) {t0 n0 : Nat} (ht0 : zT t0 = (20, n0)) {r : zH} (hE : zE K G (none) r) : ∀ (n : Nat) (x1 : Int32) (x2 : Int32) (x3 : Int32) (h : zH), g_J7_fill_53178_5 t0 n0 n x1 x2 x3 h = some r → zW K G 4 5 [(0, .ref (G.2.2.2 t0)), (1, .int x1), (2, .int x2), (3, .int x3)] [] h := by
  intro n
  induction n with
  | zero => intro x1 x2 x3 h hg; exact nomatch (show none = some r from hg)
  | succ n ih =>
    intro x1 x2 x3 h hg
    rw [g_J7_fill_53178_5] at hg
    refine z_iload_n (pc := 5) hK 2 dJ7_fill_53178_5 rfl (z_iload_n (pc := 6) hK 3 dJ7_fill_53178_6 rfl (z_icmp_ge (pc := 7) hK 20 dJ7_fill_53178_7 (by decide) (fun c_2 => ?_) (fun c_2 => ?_)))
    · rw [if_pos c_2] at hg
      exact z_vretE (pc := 20) hK hE hg dJ7_fill_53178_20
    · rw [if_neg c_2] at hg
      obtain ⟨c_3, hg⟩ := zgu_some hg
      obtain ⟨h_4, eh_4, hg⟩ := zlet_some hg
      exact z_aload_n (pc := 10) hK 0 dJ7_fill_53178_10 rfl (z_iload_n (pc := 11) hK 2 dJ7_fill_53178_11 rfl (z_iload_n (pc := 12) hK 1 dJ7_fill_53178_12 rfl (z_iast (pc := 13) hK ht0 c_3 dJ7_fill_53178_13 (z_nameH eh_4 (z_iinc (pc := 14) hK 2 (lv' := [(2, .int (x2 + 1)), (0, .ref (G.2.2.2 t0)), (1, .int x1), (3, .int x3)]) dJ7_fill_53178_14 rfl (zc_n1 _) (by decide) rfl (z_goto (pc := 17) hK 5 dJ7_fill_53178_17 (by decide) (zsub (lv' := [(0, .ref (G.2.2.2 t0)), (1, .int x1), (2, .int (x2 + 1)), (3, .int x3)]) [1, 2, 0, 3] rfl (ih x1 (x2 + 1) x3 h_4 hg))))))))
set_option maxRecDepth 100000 in
set_option maxHeartbeats 4000000 in
theorem b_J7_fill_53178 {K : zK} {G : zG} (hK : zC K G cJ7_fill_53178 RJ7 4 0 0 none) {h : zH} {t0 : Nat} {n0 : Nat} {x1 : Int32} (ht0 : zT t0 = (20, n0)) {r : zH} (hE : zE K G (none) r) (hg : g_J7_fill_53178 h t0 n0 x1 = some r) : zW K G 4 0 [(0, .ref (G.2.2.2 t0)), (1, .int x1)] [] h := by
  rw [g_J7_fill_53178] at hg
  obtain ⟨v_1, ev_1, hg⟩ := zlet_some hg
  exact z_iconst (pc := 0) hK dJ7_fill_53178_0 zc_i0 (z_istore_n (pc := 1) hK (lv' := [(2, .int 0), (0, .ref (G.2.2.2 t0)), (1, .int x1)]) dJ7_fill_53178_1 (by decide) rfl (z_aload_n (pc := 2) hK 1 dJ7_fill_53178_2 rfl (z_alen (pc := 3) hK ht0 dJ7_fill_53178_3 (z_nameI ev_1 (z_istore_n (pc := 4) hK (lv' := [(3, .int v_1), (2, .int 0), (0, .ref (G.2.2.2 t0)), (1, .int x1)]) dJ7_fill_53178_4 (by decide) rfl (zsub (lv' := [(0, .ref (G.2.2.2 t0)), (1, .int x1), (2, .int 0), (3, .int v_1)]) [2, 3, 1, 0] rfl (b_J7_fill_53178_5 hK ht0 hE zfu x1 0 v_1 h hg)))))))
theorem m_J7_fill_53178 {l : Launch} {G : zG} (hG : zD G) {h : zH} {t0 : Nat} {n0 : Nat} {x1 : Int32} (ht0 : zT t0 = (20, n0)) {r : zH} (hg : g_J7_fill_53178 h t0 n0 x1 = some r) : zM l G yJ7_fill_53178 cJ7_fill_53178 4 none 0 0 [.ref (G.2.2.2 t0), .int x1] h (none) r :=
  zM_of hG pn_J7 (Nat.le_of_ble_eq_true rfl) (fun K _ hK hE => b_J7_fill_53178 hK ht0 hE hg)
theorem dX7_begin_0 : decode cX7_begin 0 = .ok (.iconst 0, 1) := by decide +kernel
theorem dX7_begin_1 : decode cX7_begin 1 = .ok (.istore_n 1, 1) := by decide +kernel
theorem dX7_begin_2 : decode cX7_begin 2 = .ok (.iload_n 1, 1) := by decide +kernel
theorem dX7_begin_3 : decode cX7_begin 3 = .ok (.bipush 49, 2) := by decide +kernel
theorem dX7_begin_5 : decode cX7_begin 5 = .ok (.if_icmp .ge 28, 3) := by decide +kernel
theorem dX7_begin_8 : decode cX7_begin 8 = .ok (.aload_n 0, 1) := by decide +kernel
theorem dX7_begin_9 : decode cX7_begin 9 = .ok (.getfield 9, 3) := by decide +kernel
theorem dX7_begin_12 : decode cX7_begin 12 = .ok (.iload_n 1, 1) := by decide +kernel
theorem dX7_begin_13 : decode cX7_begin 13 = .ok (.iconst 0, 1) := by decide +kernel
theorem dX7_begin_14 : decode cX7_begin 14 = .ok (.aload_n 0, 1) := by decide +kernel
theorem dX7_begin_15 : decode cX7_begin 15 = .ok (.getfield 21, 3) := by decide +kernel
theorem dX7_begin_18 : decode cX7_begin 18 = .ok (.getfield 25, 3) := by decide +kernel
theorem dX7_begin_21 : decode cX7_begin 21 = .ok (.iload_n 1, 1) := by decide +kernel
theorem dX7_begin_22 : decode cX7_begin 22 = .ok (.iaload, 1) := by decide +kernel
theorem dX7_begin_23 : decode cX7_begin 23 = .ok (.invokestatic 28, 3) := by decide +kernel
theorem dX7_begin_26 : decode cX7_begin 26 = .ok (.iastore, 1) := by decide +kernel
theorem dX7_begin_27 : decode cX7_begin 27 = .ok (.iinc 1 1, 3) := by decide +kernel
theorem dX7_begin_30 : decode cX7_begin 30 = .ok (.goto (-28), 3) := by decide +kernel
theorem dX7_begin_33 : decode cX7_begin 33 = .ok (.aload_n 0, 1) := by decide +kernel
theorem dX7_begin_34 : decode cX7_begin 34 = .ok (.getfield 15, 3) := by decide +kernel
theorem dX7_begin_37 : decode cX7_begin 37 = .ok (.iconst 0, 1) := by decide +kernel
theorem dX7_begin_38 : decode cX7_begin 38 = .ok (.invokestatic 34, 3) := by decide +kernel
theorem dX7_begin_41 : decode cX7_begin 41 = .ok (.aload_n 0, 1) := by decide +kernel
theorem dX7_begin_42 : decode cX7_begin 42 = .ok (.getfield 18, 3) := by decide +kernel
theorem dX7_begin_45 : decode cX7_begin 45 = .ok (.iconst 1, 1) := by decide +kernel
theorem dX7_begin_46 : decode cX7_begin 46 = .ok (.invokestatic 34, 3) := by decide +kernel
theorem dX7_begin_49 : decode cX7_begin 49 = .ok (.aload_n 0, 1) := by decide +kernel
theorem dX7_begin_50 : decode cX7_begin 50 = .ok (.iconst 1, 1) := by decide +kernel
theorem dX7_begin_51 : decode cX7_begin 51 = .ok (.aload_n 0, 1) := by decide +kernel
theorem dX7_begin_52 : decode cX7_begin 52 = .ok (.getfield 21, 3) := by decide +kernel
theorem dX7_begin_55 : decode cX7_begin 55 = .ok (.getfield 40, 3) := by decide +kernel
theorem dX7_begin_58 : decode cX7_begin 58 = .ok (.ishl, 1) := by decide +kernel
theorem dX7_begin_59 : decode cX7_begin 59 = .ok (.iconst 1, 1) := by decide +kernel
theorem dX7_begin_60 : decode cX7_begin 60 = .ok (.isub, 1) := by decide +kernel
theorem dX7_begin_61 : decode cX7_begin 61 = .ok (.putfield 44, 3) := by decide +kernel
theorem dX7_begin_64 : decode cX7_begin 64 = .ok (.aload_n 0, 1) := by decide +kernel
theorem dX7_begin_65 : decode cX7_begin 65 = .ok (.iconst 0, 1) := by decide +kernel
theorem dX7_begin_66 : decode cX7_begin 66 = .ok (.putfield 47, 3) := by decide +kernel
theorem dX7_begin_69 : decode cX7_begin 69 = .ok (.return_, 1) := by decide +kernel
def g_X7_begin_2 (t0 : Nat)  : Nat → Int32 → zH → Option zH
  | 0, _, _ => none
  | n + 1, x1, h => if 49 ≤ x1 then ((g_J7_fill_53178 h (zR t0 2) 49 0).bind fun v_2 => (g_J7_fill_53178 v_2 (zR t0 3) 7 1).bind fun v_3 => zlet (zpi v_3 t0 4 (((1 : Int32) <<< ((v_3.1 (zR t0 0) 7) &&& 31)) - 1)) fun h_4 => zlet (zpi h_4 t0 5 0) fun h_5 => some h_5) else (zgu (zin x1 49) <| zgu (zin x1 49) <| zlet (zpi h (zR t0 1) (zx x1) (if 0 < (h.1 (zR (zR t0 0) 5) (zx x1)) then (h.1 (zR (zR t0 0) 5) (zx x1)) else 0)) fun h_8 => g_X7_begin_2 t0 n (x1 + 1) h_8)
def g_X7_begin (h : zH) (t0 : Nat) : Option zH := g_X7_begin_2 t0 zfu 0 h
set_option maxRecDepth 100000 in
set_option maxHeartbeats 4000000 in
theorem b_X7_begin_2 {K : zK} {G : zG} (hK : zC K G cX7_begin RX7 2 1 23 none) {t0 : Nat} (ht0 : zT t0 = (6, 0)) {r : zH} (hE : zE K G (none) r) : ∀ (n : Nat) (x1 : Int32) (h : zH), g_X7_begin_2 t0 n x1 h = some r → zW K G 2 2 [(0, .ref (G.2.2.2 t0)), (1, .int x1)] [] h := by
  intro n
  induction n with
  | zero => intro x1 h hg; exact nomatch (show none = some r from hg)
  | succ n ih =>
    intro x1 h hg
    rw [g_X7_begin_2] at hg
    refine z_iload_n (pc := 2) hK 1 dX7_begin_2 rfl (z_bipush (pc := 3) hK dX7_begin_3 zc_b49 (z_icmp_ge (pc := 5) hK 33 dX7_begin_5 (by decide) (fun c_1 => ?_) (fun c_1 => ?_)))
    · rw [if_pos c_1] at hg
      obtain ⟨v_2, qv_2, hg⟩ := zbind_some hg
      obtain ⟨v_3, qv_3, hg⟩ := zbind_some hg
      obtain ⟨h_4, eh_4, hg⟩ := zlet_some hg
      obtain ⟨h_5, eh_5, hg⟩ := zlet_some hg
      exact z_aload_n (pc := 33) hK 0 dX7_begin_33 rfl (z_getR (pc := 34) hK f_X7_15_6 ht0 dX7_begin_34 (z_iconst (pc := 37) hK dX7_begin_37 zc_i0 (z_callSv (pc := 38) hK [.ref (G.2.2.2 (zR t0 2)), .int 0] (m_J7_fill_53178 (zC_D hK) (zt_6_2 ht0) qv_2) ss_J7_fill_53178 q_848 rfl [] rfl (Nat.le_of_ble_eq_true rfl) ⟨by decide, by decide⟩ dX7_begin_38 (z_aload_n (pc := 41) hK 0 dX7_begin_41 rfl (z_getR (pc := 42) hK f_X7_18_6 ht0 dX7_begin_42 (z_iconst (pc := 45) hK dX7_begin_45 zc_i1 (z_callSv (pc := 46) hK [.ref (G.2.2.2 (zR t0 3)), .int 1] (m_J7_fill_53178 (zC_D hK) (zt_6_3 ht0) qv_3) ss_J7_fill_53178 q_848 rfl [] rfl (Nat.le_of_ble_eq_true rfl) ⟨by decide, by decide⟩ dX7_begin_46 (z_aload_n (pc := 49) hK 0 dX7_begin_49 rfl (z_iconst (pc := 50) hK dX7_begin_50 zc_i1 (z_aload_n (pc := 51) hK 0 dX7_begin_51 rfl (z_getR (pc := 52) hK f_X7_21_6 ht0 dX7_begin_52 (z_getI (pc := 55) hK f_X7_40_4 (zt_6_0 ht0) dX7_begin_55 (z_ishl (pc := 58) hK dX7_begin_58 (z_iconst (pc := 59) hK dX7_begin_59 zc_i1 (z_isub (pc := 60) hK dX7_begin_60 (z_putI (pc := 61) hK f_X7_44_6 fp_6_4 ht0 dX7_begin_61 (z_nameH eh_4 (z_aload_n (pc := 64) hK 0 dX7_begin_64 rfl (z_iconst (pc := 65) hK dX7_begin_65 zc_i0 (z_putI (pc := 66) hK f_X7_47_6 fp_6_5 ht0 dX7_begin_66 (z_nameH eh_5 (z_vretE (pc := 69) hK hE hg dX7_begin_69))))))))))))))))))))))
    · rw [if_neg c_1] at hg
      obtain ⟨c_6, hg⟩ := zgu_some hg
      obtain ⟨c_7, hg⟩ := zgu_some hg
      obtain ⟨h_8, eh_8, hg⟩ := zlet_some hg
      exact z_aload_n (pc := 8) hK 0 dX7_begin_8 rfl (z_getR (pc := 9) hK f_X7_9_6 ht0 dX7_begin_9 (z_iload_n (pc := 12) hK 1 dX7_begin_12 rfl (z_iconst (pc := 13) hK dX7_begin_13 zc_i0 (z_aload_n (pc := 14) hK 0 dX7_begin_14 rfl (z_getR (pc := 15) hK f_X7_21_6 ht0 dX7_begin_15 (z_getR (pc := 18) hK f_X7_25_4 (zt_6_0 ht0) dX7_begin_18 (z_iload_n (pc := 21) hK 1 dX7_begin_21 rfl (z_iald (pc := 22) hK (zt_4_5 (zt_6_0 ht0)) c_6 dX7_begin_22 (z_mmax (pc := 23) hK q_847 zw_max ⟨by decide, Nat.le_of_ble_eq_true rfl⟩ dX7_begin_23 (z_iast (pc := 26) hK (zt_6_1 ht0) c_7 dX7_begin_26 (z_nameH eh_8 (z_iinc (pc := 27) hK 1 (lv' := [(1, .int (x1 + 1)), (0, .ref (G.2.2.2 t0))]) dX7_begin_27 rfl (zc_n1 _) (by decide) rfl (z_goto (pc := 30) hK 2 dX7_begin_30 (by decide) (zsub (lv' := [(0, .ref (G.2.2.2 t0)), (1, .int (x1 + 1))]) [1, 0] rfl (ih (x1 + 1) h_8 hg)))))))))))))))
set_option maxRecDepth 100000 in
set_option maxHeartbeats 4000000 in
theorem b_X7_begin {K : zK} {G : zG} (hK : zC K G cX7_begin RX7 2 1 23 none) {h : zH} {t0 : Nat} (ht0 : zT t0 = (6, 0)) {r : zH} (hE : zE K G (none) r) (hg : g_X7_begin h t0 = some r) : zW K G 2 0 [(0, .ref (G.2.2.2 t0))] [] h := by
  rw [g_X7_begin] at hg
  exact z_iconst (pc := 0) hK dX7_begin_0 zc_i0 (z_istore_n (pc := 1) hK (lv' := [(1, .int 0), (0, .ref (G.2.2.2 t0))]) dX7_begin_1 (by decide) rfl (zsub (lv' := [(0, .ref (G.2.2.2 t0)), (1, .int 0)]) [1, 0] rfl (b_X7_begin_2 hK ht0 hE zfu 0 h hg)))
theorem m_X7_begin {l : Launch} {G : zG} (hG : zD G) {h : zH} {t0 : Nat} (ht0 : zT t0 = (6, 0)) {r : zH} (hg : g_X7_begin h t0 = some r) : zM l G yX7_begin cX7_begin 2 none 1 23 [.ref (G.2.2.2 t0)] h (none) r :=
  zM_of hG pn_X7 (Nat.le_of_ble_eq_true rfl) (fun K _ hK hE => b_X7_begin hK ht0 hE hg)
theorem dX2_begin_0 : decode cX2_begin 0 = .ok (.aload_n 0, 1) := by decide +kernel
theorem dX2_begin_1 : decode cX2_begin 1 = .ok (.getfield 27, 3) := by decide +kernel
theorem dX2_begin_4 : decode cX2_begin 4 = .ok (.invokevirtual 31, 3) := by decide +kernel
theorem dX2_begin_7 : decode cX2_begin 7 = .ok (.aload_n 0, 1) := by decide +kernel
theorem dX2_begin_8 : decode cX2_begin 8 = .ok (.getfield 12, 3) := by decide +kernel
theorem dX2_begin_11 : decode cX2_begin 11 = .ok (.iconst 0, 1) := by decide +kernel
theorem dX2_begin_12 : decode cX2_begin 12 = .ok (.putfield 34, 3) := by decide +kernel
theorem dX2_begin_15 : decode cX2_begin 15 = .ok (.aload_n 0, 1) := by decide +kernel
theorem dX2_begin_16 : decode cX2_begin 16 = .ok (.iconst 0, 1) := by decide +kernel
theorem dX2_begin_17 : decode cX2_begin 17 = .ok (.putfield 37, 3) := by decide +kernel
theorem dX2_begin_20 : decode cX2_begin 20 = .ok (.aload_n 0, 1) := by decide +kernel
theorem dX2_begin_21 : decode cX2_begin 21 = .ok (.sipush 1022, 3) := by decide +kernel
theorem dX2_begin_24 : decode cX2_begin 24 = .ok (.putfield 18, 3) := by decide +kernel
theorem dX2_begin_27 : decode cX2_begin 27 = .ok (.return_, 1) := by decide +kernel
def g_X2_begin (h : zH) (t0 : Nat) : Option zH := (g_X7_begin h (zR t0 0)).bind fun v_1 => zlet (zpi v_1 (zR t0 1) 1 0) fun h_2 => zlet (zpi h_2 t0 2 0) fun h_3 => zlet (zpi h_3 t0 3 1022) fun h_4 => some h_4
set_option maxRecDepth 100000 in
set_option maxHeartbeats 4000000 in
theorem b_X2_begin {K : zK} {G : zG} (hK : zC K G cX2_begin RX2 1 2 44 none) {h : zH} {t0 : Nat} (ht0 : zT t0 = (2, 0)) {r : zH} (hE : zE K G (none) r) (hg : g_X2_begin h t0 = some r) : zW K G 1 0 [(0, .ref (G.2.2.2 t0))] [] h := by
  rw [g_X2_begin] at hg
  obtain ⟨v_1, qv_1, hg⟩ := zbind_some hg
  obtain ⟨h_2, eh_2, hg⟩ := zlet_some hg
  obtain ⟨h_3, eh_3, hg⟩ := zlet_some hg
  obtain ⟨h_4, eh_4, hg⟩ := zlet_some hg
  exact z_aload_n (pc := 0) hK 0 dX2_begin_0 rfl (z_getR (pc := 1) hK f_X2_27_2 ht0 dX2_begin_1 (z_callVv (pc := 4) hK [] (m_X7_begin (zC_D hK) (zt_2_0 ht0) qv_1) sv_X7_begin q_853 (zt_2_0 ht0) rfl [] rfl (Nat.le_of_ble_eq_true rfl) ⟨by decide, by decide⟩ dX2_begin_4 (z_aload_n (pc := 7) hK 0 dX2_begin_7 rfl (z_getR (pc := 8) hK f_X2_12_2 ht0 dX2_begin_8 (z_iconst (pc := 11) hK dX2_begin_11 zc_i0 (z_putI (pc := 12) hK f_X2_34_8 fp_8_1 (zt_2_1 ht0) dX2_begin_12 (z_nameH eh_2 (z_aload_n (pc := 15) hK 0 dX2_begin_15 rfl (z_iconst (pc := 16) hK dX2_begin_16 zc_i0 (z_putI (pc := 17) hK f_X2_37_2 fp_2_2 ht0 dX2_begin_17 (z_nameH eh_3 (z_aload_n (pc := 20) hK 0 dX2_begin_20 rfl (z_sipush (pc := 21) hK dX2_begin_21 zc_s1022 (z_putI (pc := 24) hK f_X2_18_2 fp_2_3 ht0 dX2_begin_24 (z_nameH eh_4 (z_vretE (pc := 27) hK hE hg dX2_begin_27))))))))))))))))
theorem m_X2_begin {l : Launch} {G : zG} (hG : zD G) {h : zH} {t0 : Nat} (ht0 : zT t0 = (2, 0)) {r : zH} (hg : g_X2_begin h t0 = some r) : zM l G yX2_begin cX2_begin 1 none 2 44 [.ref (G.2.2.2 t0)] h (none) r :=
  zM_of hG pn_X2 (Nat.le_of_ble_eq_true rfl) (fun K _ hK hE => b_X2_begin hK ht0 hE hg)
theorem dX7_become_0 : decode cX7_become 0 = .ok (.aload_n 1, 1) := by decide +kernel
theorem dX7_become_1 : decode cX7_become 1 = .ok (.getfield 9, 3) := by decide +kernel
theorem dX7_become_4 : decode cX7_become 4 = .ok (.iconst 0, 1) := by decide +kernel
theorem dX7_become_5 : decode cX7_become 5 = .ok (.aload_n 0, 1) := by decide +kernel
theorem dX7_become_6 : decode cX7_become 6 = .ok (.getfield 9, 3) := by decide +kernel
theorem dX7_become_9 : decode cX7_become 9 = .ok (.iconst 0, 1) := by decide +kernel
theorem dX7_become_10 : decode cX7_become 10 = .ok (.bipush 49, 2) := by decide +kernel
theorem dX7_become_12 : decode cX7_become 12 = .ok (.invokestatic 50, 3) := by decide +kernel
theorem dX7_become_15 : decode cX7_become 15 = .ok (.aload_n 1, 1) := by decide +kernel
theorem dX7_become_16 : decode cX7_become 16 = .ok (.getfield 15, 3) := by decide +kernel
theorem dX7_become_19 : decode cX7_become 19 = .ok (.iconst 0, 1) := by decide +kernel
theorem dX7_become_20 : decode cX7_become 20 = .ok (.aload_n 0, 1) := by decide +kernel
theorem dX7_become_21 : decode cX7_become 21 = .ok (.getfield 15, 3) := by decide +kernel
theorem dX7_become_24 : decode cX7_become 24 = .ok (.iconst 0, 1) := by decide +kernel
theorem dX7_become_25 : decode cX7_become 25 = .ok (.bipush 49, 2) := by decide +kernel
theorem dX7_become_27 : decode cX7_become 27 = .ok (.invokestatic 50, 3) := by decide +kernel
theorem dX7_become_30 : decode cX7_become 30 = .ok (.aload_n 1, 1) := by decide +kernel
theorem dX7_become_31 : decode cX7_become 31 = .ok (.getfield 18, 3) := by decide +kernel
theorem dX7_become_34 : decode cX7_become 34 = .ok (.iconst 0, 1) := by decide +kernel
theorem dX7_become_35 : decode cX7_become 35 = .ok (.aload_n 0, 1) := by decide +kernel
theorem dX7_become_36 : decode cX7_become 36 = .ok (.getfield 18, 3) := by decide +kernel
theorem dX7_become_39 : decode cX7_become 39 = .ok (.iconst 0, 1) := by decide +kernel
theorem dX7_become_40 : decode cX7_become 40 = .ok (.bipush 7, 2) := by decide +kernel
theorem dX7_become_42 : decode cX7_become 42 = .ok (.invokestatic 50, 3) := by decide +kernel
theorem dX7_become_45 : decode cX7_become 45 = .ok (.aload_n 0, 1) := by decide +kernel
theorem dX7_become_46 : decode cX7_become 46 = .ok (.aload_n 1, 1) := by decide +kernel
theorem dX7_become_47 : decode cX7_become 47 = .ok (.getfield 44, 3) := by decide +kernel
theorem dX7_become_50 : decode cX7_become 50 = .ok (.putfield 44, 3) := by decide +kernel
theorem dX7_become_53 : decode cX7_become 53 = .ok (.aload_n 0, 1) := by decide +kernel
theorem dX7_become_54 : decode cX7_become 54 = .ok (.aload_n 1, 1) := by decide +kernel
theorem dX7_become_55 : decode cX7_become 55 = .ok (.getfield 47, 3) := by decide +kernel
theorem dX7_become_58 : decode cX7_become 58 = .ok (.putfield 47, 3) := by decide +kernel
theorem dX7_become_61 : decode cX7_become 61 = .ok (.return_, 1) := by decide +kernel
def g_X7_become (h : zH) (t0 : Nat) (t1 : Nat) : Option zH := zgu (zcg 0 0 49 49 49) <| zlet (zcpi h (zR t1 1) (zx 0) (zR t0 1) (zx 0) (zx 49)) fun h_2 => zgu (zcg 0 0 49 49 49) <| zlet (zcpi h_2 (zR t1 2) (zx 0) (zR t0 2) (zx 0) (zx 49)) fun h_4 => zgu (zcg 0 0 7 7 7) <| zlet (zcpi h_4 (zR t1 3) (zx 0) (zR t0 3) (zx 0) (zx 7)) fun h_6 => zlet (zpi h_6 t0 4 (h_6.1 t1 4)) fun h_7 => zlet (zpi h_7 t0 5 (h_7.1 t1 5)) fun h_8 => some h_8
set_option maxRecDepth 100000 in
set_option maxHeartbeats 4000000 in
theorem b_X7_become {K : zK} {G : zG} (hK : zC K G cX7_become RX7 2 1 18 none) {h : zH} {t0 : Nat} {t1 : Nat} (ht0 : zT t0 = (6, 0)) (ht1 : zT t1 = (6, 0)) {r : zH} (hE : zE K G (none) r) (hg : g_X7_become h t0 t1 = some r) : zW K G 2 0 [(0, .ref (G.2.2.2 t0)), (1, .ref (G.2.2.2 t1))] [] h := by
  rw [g_X7_become] at hg
  obtain ⟨c_1, hg⟩ := zgu_some hg
  obtain ⟨h_2, eh_2, hg⟩ := zlet_some hg
  obtain ⟨c_3, hg⟩ := zgu_some hg
  obtain ⟨h_4, eh_4, hg⟩ := zlet_some hg
  obtain ⟨c_5, hg⟩ := zgu_some hg
  obtain ⟨h_6, eh_6, hg⟩ := zlet_some hg
  obtain ⟨h_7, eh_7, hg⟩ := zlet_some hg
  obtain ⟨h_8, eh_8, hg⟩ := zlet_some hg
  exact z_aload_n (pc := 0) hK 1 dX7_become_0 rfl (z_getR (pc := 1) hK f_X7_9_6 ht1 dX7_become_1 (z_iconst (pc := 4) hK dX7_become_4 zc_i0 (z_aload_n (pc := 5) hK 0 dX7_become_5 rfl (z_getR (pc := 6) hK f_X7_9_6 ht0 dX7_become_6 (z_iconst (pc := 9) hK dX7_become_9 zc_i0 (z_bipush (pc := 10) hK dX7_become_10 zc_b49 (z_copyi (pc := 12) hK q_939 zw_copy (zt_6_1 ht1) (zt_6_1 ht0) c_1 ⟨by decide, Nat.le_of_ble_eq_true rfl⟩ dX7_become_12 (z_nameH eh_2 (z_aload_n (pc := 15) hK 1 dX7_become_15 rfl (z_getR (pc := 16) hK f_X7_15_6 ht1 dX7_become_16 (z_iconst (pc := 19) hK dX7_become_19 zc_i0 (z_aload_n (pc := 20) hK 0 dX7_become_20 rfl (z_getR (pc := 21) hK f_X7_15_6 ht0 dX7_become_21 (z_iconst (pc := 24) hK dX7_become_24 zc_i0 (z_bipush (pc := 25) hK dX7_become_25 zc_b49 (z_copyi (pc := 27) hK q_939 zw_copy (zt_6_2 ht1) (zt_6_2 ht0) c_3 ⟨by decide, Nat.le_of_ble_eq_true rfl⟩ dX7_become_27 (z_nameH eh_4 (z_aload_n (pc := 30) hK 1 dX7_become_30 rfl (z_getR (pc := 31) hK f_X7_18_6 ht1 dX7_become_31 (z_iconst (pc := 34) hK dX7_become_34 zc_i0 (z_aload_n (pc := 35) hK 0 dX7_become_35 rfl (z_getR (pc := 36) hK f_X7_18_6 ht0 dX7_become_36 (z_iconst (pc := 39) hK dX7_become_39 zc_i0 (z_bipush (pc := 40) hK dX7_become_40 zc_b7 (z_copyi (pc := 42) hK q_939 zw_copy (zt_6_3 ht1) (zt_6_3 ht0) c_5 ⟨by decide, Nat.le_of_ble_eq_true rfl⟩ dX7_become_42 (z_nameH eh_6 (z_aload_n (pc := 45) hK 0 dX7_become_45 rfl (z_aload_n (pc := 46) hK 1 dX7_become_46 rfl (z_getI (pc := 47) hK f_X7_44_6 ht1 dX7_become_47 (z_putI (pc := 50) hK f_X7_44_6 fp_6_4 ht0 dX7_become_50 (z_nameH eh_7 (z_aload_n (pc := 53) hK 0 dX7_become_53 rfl (z_aload_n (pc := 54) hK 1 dX7_become_54 rfl (z_getI (pc := 55) hK f_X7_47_6 ht1 dX7_become_55 (z_putI (pc := 58) hK f_X7_47_6 fp_6_5 ht0 dX7_become_58 (z_nameH eh_8 (z_vretE (pc := 61) hK hE hg dX7_become_61)))))))))))))))))))))))))))))))))))))
theorem m_X7_become {l : Launch} {G : zG} (hG : zD G) {h : zH} {t0 : Nat} {t1 : Nat} (ht0 : zT t0 = (6, 0)) (ht1 : zT t1 = (6, 0)) {r : zH} (hg : g_X7_become h t0 t1 = some r) : zM l G yX7_become cX7_become 2 none 1 18 [.ref (G.2.2.2 t0), .ref (G.2.2.2 t1)] h (none) r :=
  zM_of hG pn_X7 (Nat.le_of_ble_eq_true rfl) (fun K _ hK hE => b_X7_become hK ht0 ht1 hE hg)
theorem dX9_become_0 : decode cX9_become 0 = .ok (.aload_n 1, 1) := by decide +kernel
theorem dX9_become_1 : decode cX9_become 1 = .ok (.getfield 9, 3) := by decide +kernel
theorem dX9_become_4 : decode cX9_become 4 = .ok (.iconst 0, 1) := by decide +kernel
theorem dX9_become_5 : decode cX9_become 5 = .ok (.aload_n 0, 1) := by decide +kernel
theorem dX9_become_6 : decode cX9_become 6 = .ok (.getfield 9, 3) := by decide +kernel
theorem dX9_become_9 : decode cX9_become 9 = .ok (.iconst 0, 1) := by decide +kernel
theorem dX9_become_10 : decode cX9_become 10 = .ok (.bipush 40, 2) := by decide +kernel
theorem dX9_become_12 : decode cX9_become 12 = .ok (.invokestatic 13, 3) := by decide +kernel
theorem dX9_become_15 : decode cX9_become 15 = .ok (.aload_n 0, 1) := by decide +kernel
theorem dX9_become_16 : decode cX9_become 16 = .ok (.aload_n 1, 1) := by decide +kernel
theorem dX9_become_17 : decode cX9_become 17 = .ok (.getfield 19, 3) := by decide +kernel
theorem dX9_become_20 : decode cX9_become 20 = .ok (.putfield 19, 3) := by decide +kernel
theorem dX9_become_23 : decode cX9_become 23 = .ok (.return_, 1) := by decide +kernel
def g_X9_become (h : zH) (t0 : Nat) (t1 : Nat) : Option zH := zgu (zcg 0 0 40 40 40) <| zlet (zcpi h (zR t1 0) (zx 0) (zR t0 0) (zx 0) (zx 40)) fun h_2 => zlet (zpi h_2 t0 1 (h_2.1 t1 1)) fun h_3 => some h_3
set_option maxRecDepth 100000 in
set_option maxHeartbeats 4000000 in
theorem b_X9_become {K : zK} {G : zG} (hK : zC K G cX9_become RX9 2 1 18 none) {h : zH} {t0 : Nat} {t1 : Nat} (ht0 : zT t0 = (8, 0)) (ht1 : zT t1 = (8, 0)) {r : zH} (hE : zE K G (none) r) (hg : g_X9_become h t0 t1 = some r) : zW K G 2 0 [(0, .ref (G.2.2.2 t0)), (1, .ref (G.2.2.2 t1))] [] h := by
  rw [g_X9_become] at hg
  obtain ⟨c_1, hg⟩ := zgu_some hg
  obtain ⟨h_2, eh_2, hg⟩ := zlet_some hg
  obtain ⟨h_3, eh_3, hg⟩ := zlet_some hg
  exact z_aload_n (pc := 0) hK 1 dX9_become_0 rfl (z_getR (pc := 1) hK f_X9_9_8 ht1 dX9_become_1 (z_iconst (pc := 4) hK dX9_become_4 zc_i0 (z_aload_n (pc := 5) hK 0 dX9_become_5 rfl (z_getR (pc := 6) hK f_X9_9_8 ht0 dX9_become_6 (z_iconst (pc := 9) hK dX9_become_9 zc_i0 (z_bipush (pc := 10) hK dX9_become_10 zc_b40 (z_copyi (pc := 12) hK q_870 zw_copy (zt_8_0 ht1) (zt_8_0 ht0) c_1 ⟨by decide, Nat.le_of_ble_eq_true rfl⟩ dX9_become_12 (z_nameH eh_2 (z_aload_n (pc := 15) hK 0 dX9_become_15 rfl (z_aload_n (pc := 16) hK 1 dX9_become_16 rfl (z_getI (pc := 17) hK f_X9_19_8 ht1 dX9_become_17 (z_putI (pc := 20) hK f_X9_19_8 fp_8_1 ht0 dX9_become_20 (z_nameH eh_3 (z_vretE (pc := 23) hK hE hg dX9_become_23))))))))))))))
theorem m_X9_become {l : Launch} {G : zG} (hG : zD G) {h : zH} {t0 : Nat} {t1 : Nat} (ht0 : zT t0 = (8, 0)) (ht1 : zT t1 = (8, 0)) {r : zH} (hg : g_X9_become h t0 t1 = some r) : zM l G yX9_become cX9_become 2 none 1 18 [.ref (G.2.2.2 t0), .ref (G.2.2.2 t1)] h (none) r :=
  zM_of hG pn_X9 (Nat.le_of_ble_eq_true rfl) (fun K _ hK hE => b_X9_become hK ht0 ht1 hE hg)
theorem dX2_become_0 : decode cX2_become 0 = .ok (.aload_n 0, 1) := by decide +kernel
theorem dX2_become_1 : decode cX2_become 1 = .ok (.getfield 27, 3) := by decide +kernel
theorem dX2_become_4 : decode cX2_become 4 = .ok (.aload_n 1, 1) := by decide +kernel
theorem dX2_become_5 : decode cX2_become 5 = .ok (.getfield 27, 3) := by decide +kernel
theorem dX2_become_8 : decode cX2_become 8 = .ok (.invokevirtual 40, 3) := by decide +kernel
theorem dX2_become_11 : decode cX2_become 11 = .ok (.aload_n 0, 1) := by decide +kernel
theorem dX2_become_12 : decode cX2_become 12 = .ok (.getfield 12, 3) := by decide +kernel
theorem dX2_become_15 : decode cX2_become 15 = .ok (.aload_n 1, 1) := by decide +kernel
theorem dX2_become_16 : decode cX2_become 16 = .ok (.getfield 12, 3) := by decide +kernel
theorem dX2_become_19 : decode cX2_become 19 = .ok (.invokevirtual 44, 3) := by decide +kernel
theorem dX2_become_22 : decode cX2_become 22 = .ok (.aload_n 0, 1) := by decide +kernel
theorem dX2_become_23 : decode cX2_become 23 = .ok (.aload_n 1, 1) := by decide +kernel
theorem dX2_become_24 : decode cX2_become 24 = .ok (.getfield 37, 3) := by decide +kernel
theorem dX2_become_27 : decode cX2_become 27 = .ok (.putfield 37, 3) := by decide +kernel
theorem dX2_become_30 : decode cX2_become 30 = .ok (.aload_n 0, 1) := by decide +kernel
theorem dX2_become_31 : decode cX2_become 31 = .ok (.aload_n 1, 1) := by decide +kernel
theorem dX2_become_32 : decode cX2_become 32 = .ok (.getfield 18, 3) := by decide +kernel
theorem dX2_become_35 : decode cX2_become 35 = .ok (.putfield 18, 3) := by decide +kernel
theorem dX2_become_38 : decode cX2_become 38 = .ok (.return_, 1) := by decide +kernel
def g_X2_become (h : zH) (t0 : Nat) (t1 : Nat) : Option zH := (g_X7_become h (zR t0 0) (zR t1 0)).bind fun v_1 => (g_X9_become v_1 (zR t0 1) (zR t1 1)).bind fun v_2 => zlet (zpi v_2 t0 2 (v_2.1 t1 2)) fun h_3 => zlet (zpi h_3 t0 3 (h_3.1 t1 3)) fun h_4 => some h_4
set_option maxRecDepth 100000 in
set_option maxHeartbeats 4000000 in
theorem b_X2_become {K : zK} {G : zG} (hK : zC K G cX2_become RX2 2 2 39 none) {h : zH} {t0 : Nat} {t1 : Nat} (ht0 : zT t0 = (2, 0)) (ht1 : zT t1 = (2, 0)) {r : zH} (hE : zE K G (none) r) (hg : g_X2_become h t0 t1 = some r) : zW K G 2 0 [(0, .ref (G.2.2.2 t0)), (1, .ref (G.2.2.2 t1))] [] h := by
  rw [g_X2_become] at hg
  obtain ⟨v_1, qv_1, hg⟩ := zbind_some hg
  obtain ⟨v_2, qv_2, hg⟩ := zbind_some hg
  obtain ⟨h_3, eh_3, hg⟩ := zlet_some hg
  obtain ⟨h_4, eh_4, hg⟩ := zlet_some hg
  exact z_aload_n (pc := 0) hK 0 dX2_become_0 rfl (z_getR (pc := 1) hK f_X2_27_2 ht0 dX2_become_1 (z_aload_n (pc := 4) hK 1 dX2_become_4 rfl (z_getR (pc := 5) hK f_X2_27_2 ht1 dX2_become_5 (z_callVv (pc := 8) hK [.ref (G.2.2.2 (zR t1 0))] (m_X7_become (zC_D hK) (zt_2_0 ht0) (zt_2_0 ht1) qv_1) sv_X7_become q_1194 (zt_2_0 ht0) rfl [] rfl (Nat.le_of_ble_eq_true rfl) ⟨by decide, by decide⟩ dX2_become_8 (z_aload_n (pc := 11) hK 0 dX2_become_11 rfl (z_getR (pc := 12) hK f_X2_12_2 ht0 dX2_become_12 (z_aload_n (pc := 15) hK 1 dX2_become_15 rfl (z_getR (pc := 16) hK f_X2_12_2 ht1 dX2_become_16 (z_callVv (pc := 19) hK [.ref (G.2.2.2 (zR t1 1))] (m_X9_become (zC_D hK) (zt_2_1 ht0) (zt_2_1 ht1) qv_2) sv_X9_become q_1195 (zt_2_1 ht0) rfl [] rfl (Nat.le_of_ble_eq_true rfl) ⟨by decide, by decide⟩ dX2_become_19 (z_aload_n (pc := 22) hK 0 dX2_become_22 rfl (z_aload_n (pc := 23) hK 1 dX2_become_23 rfl (z_getI (pc := 24) hK f_X2_37_2 ht1 dX2_become_24 (z_putI (pc := 27) hK f_X2_37_2 fp_2_2 ht0 dX2_become_27 (z_nameH eh_3 (z_aload_n (pc := 30) hK 0 dX2_become_30 rfl (z_aload_n (pc := 31) hK 1 dX2_become_31 rfl (z_getI (pc := 32) hK f_X2_18_2 ht1 dX2_become_32 (z_putI (pc := 35) hK f_X2_18_2 fp_2_3 ht0 dX2_become_35 (z_nameH eh_4 (z_vretE (pc := 38) hK hE hg dX2_become_38))))))))))))))))))))
theorem m_X2_become {l : Launch} {G : zG} (hG : zD G) {h : zH} {t0 : Nat} {t1 : Nat} (ht0 : zT t0 = (2, 0)) (ht1 : zT t1 = (2, 0)) {r : zH} (hg : g_X2_become h t0 t1 = some r) : zM l G yX2_become cX2_become 2 none 2 39 [.ref (G.2.2.2 t0), .ref (G.2.2.2 t1)] h (none) r :=
  zM_of hG pn_X2 (Nat.le_of_ble_eq_true rfl) (fun K _ hK hE => b_X2_become hK ht0 ht1 hE hg)
theorem dX3_forget_0 : decode cX3_forget 0 = .ok (.aload_n 0, 1) := by decide +kernel
theorem dX3_forget_1 : decode cX3_forget 1 = .ok (.iconst 0, 1) := by decide +kernel
theorem dX3_forget_2 : decode cX3_forget 2 = .ok (.putfield 18, 3) := by decide +kernel
theorem dX3_forget_5 : decode cX3_forget 5 = .ok (.return_, 1) := by decide +kernel
def g_X3_forget (h : zH) (t0 : Nat) : Option zH := zlet (zpi h t0 2 0) fun h_1 => some h_1
set_option maxRecDepth 100000 in
set_option maxHeartbeats 4000000 in
theorem b_X3_forget {K : zK} {G : zG} (hK : zC K G cX3_forget RX3 1 0 0 none) {h : zH} {t0 : Nat} (ht0 : zT t0 = (3, 0)) {r : zH} (hE : zE K G (none) r) (hg : g_X3_forget h t0 = some r) : zW K G 1 0 [(0, .ref (G.2.2.2 t0))] [] h := by
  rw [g_X3_forget] at hg
  obtain ⟨h_1, eh_1, hg⟩ := zlet_some hg
  exact z_aload_n (pc := 0) hK 0 dX3_forget_0 rfl (z_iconst (pc := 1) hK dX3_forget_1 zc_i0 (z_putI (pc := 2) hK f_X3_18_3 fp_3_2 ht0 dX3_forget_2 (z_nameH eh_1 (z_vretE (pc := 5) hK hE hg dX3_forget_5))))
theorem m_X3_forget {l : Launch} {G : zG} (hG : zD G) {h : zH} {t0 : Nat} (ht0 : zT t0 = (3, 0)) {r : zH} (hg : g_X3_forget h t0 = some r) : zM l G yX3_forget cX3_forget 1 none 0 0 [.ref (G.2.2.2 t0)] h (none) r :=
  zM_of hG pn_X3 (Nat.le_of_ble_eq_true rfl) (fun K _ hK hE => b_X3_forget hK ht0 hE hg)
theorem dX3_keep_0 : decode cX3_keep 0 = .ok (.aload_n 0, 1) := by decide +kernel
theorem dX3_keep_1 : decode cX3_keep 1 = .ok (.getfield 11, 3) := by decide +kernel
theorem dX3_keep_4 : decode cX3_keep 4 = .ok (.aload_n 0, 1) := by decide +kernel
theorem dX3_keep_5 : decode cX3_keep 5 = .ok (.getfield 22, 3) := by decide +kernel
theorem dX3_keep_8 : decode cX3_keep 8 = .ok (.aaload, 1) := by decide +kernel
theorem dX3_keep_9 : decode cX3_keep 9 = .ok (.aload_n 1, 1) := by decide +kernel
theorem dX3_keep_10 : decode cX3_keep 10 = .ok (.invokevirtual 25, 3) := by decide +kernel
theorem dX3_keep_13 : decode cX3_keep 13 = .ok (.aload_n 0, 1) := by decide +kernel
theorem dX3_keep_14 : decode cX3_keep 14 = .ok (.aload_n 0, 1) := by decide +kernel
theorem dX3_keep_15 : decode cX3_keep 15 = .ok (.getfield 22, 3) := by decide +kernel
theorem dX3_keep_18 : decode cX3_keep 18 = .ok (.iconst 1, 1) := by decide +kernel
theorem dX3_keep_19 : decode cX3_keep 19 = .ok (.iadd, 1) := by decide +kernel
theorem dX3_keep_20 : decode cX3_keep 20 = .ok (.bipush 16, 2) := by decide +kernel
theorem dX3_keep_22 : decode cX3_keep 22 = .ok (.if_icmp .ge 12, 3) := by decide +kernel
theorem dX3_keep_25 : decode cX3_keep 25 = .ok (.aload_n 0, 1) := by decide +kernel
theorem dX3_keep_26 : decode cX3_keep 26 = .ok (.getfield 22, 3) := by decide +kernel
theorem dX3_keep_29 : decode cX3_keep 29 = .ok (.iconst 1, 1) := by decide +kernel
theorem dX3_keep_30 : decode cX3_keep 30 = .ok (.iadd, 1) := by decide +kernel
theorem dX3_keep_31 : decode cX3_keep 31 = .ok (.goto 4, 3) := by decide +kernel
theorem dX3_keep_34 : decode cX3_keep 34 = .ok (.iconst 0, 1) := by decide +kernel
theorem dX3_keep_35 : decode cX3_keep 35 = .ok (.putfield 22, 3) := by decide +kernel
theorem dX3_keep_38 : decode cX3_keep 38 = .ok (.aload_n 0, 1) := by decide +kernel
theorem dX3_keep_39 : decode cX3_keep 39 = .ok (.bipush 16, 2) := by decide +kernel
theorem dX3_keep_41 : decode cX3_keep 41 = .ok (.aload_n 0, 1) := by decide +kernel
theorem dX3_keep_42 : decode cX3_keep 42 = .ok (.getfield 18, 3) := by decide +kernel
theorem dX3_keep_45 : decode cX3_keep 45 = .ok (.iconst 1, 1) := by decide +kernel
theorem dX3_keep_46 : decode cX3_keep 46 = .ok (.iadd, 1) := by decide +kernel
theorem dX3_keep_47 : decode cX3_keep 47 = .ok (.invokestatic 29, 3) := by decide +kernel
theorem dX3_keep_50 : decode cX3_keep 50 = .ok (.putfield 18, 3) := by decide +kernel
theorem dX3_keep_53 : decode cX3_keep 53 = .ok (.return_, 1) := by decide +kernel
def g_X3_keep_35 (t0 : Nat) (t1 : Nat)  (s0 : Int32) (h : zH) : Option zH := zlet (zpi h t0 1 s0) fun h_4 => zlet (zpi h_4 t0 2 (if ((h_4.1 t0 2) + 1) < 16 then ((h_4.1 t0 2) + 1) else 16)) fun h_5 => some h_5
def g_X3_keep (h : zH) (t0 : Nat) (t1 : Nat) : Option zH := zgu (zin (h.1 t0 1) 16) <| (g_X7_become h (zR (zR t0 0) (zx (h.1 t0 1))) t1).bind fun v_2 => if 16 ≤ ((v_2.1 t0 1) + 1) then (g_X3_keep_35 t0 t1 0 v_2) else (g_X3_keep_35 t0 t1 ((v_2.1 t0 1) + 1) v_2)
set_option maxRecDepth 100000 in
set_option maxHeartbeats 4000000 in
theorem b_X3_keep_35 {K : zK} {G : zG} (hK : zC K G cX3_keep RX3 2 2 39 none) {t0 t1 : Nat} (ht0 : zT t0 = (3, 0)) (ht1 : zT t1 = (6, 0)) {r : zH} (hE : zE K G (none) r) (s0 : Int32) (h : zH) (hg : g_X3_keep_35 t0 t1 s0 h = some r) : zW K G 2 35 [(0, .ref (G.2.2.2 t0))] [.int s0, .ref (G.2.2.2 t0)] h := by
  rw [g_X3_keep_35] at hg
  obtain ⟨h_4, eh_4, hg⟩ := zlet_some hg
  obtain ⟨h_5, eh_5, hg⟩ := zlet_some hg
  exact z_putI (pc := 35) hK f_X3_22_3 fp_3_1 ht0 dX3_keep_35 (z_nameH eh_4 (z_aload_n (pc := 38) hK 0 dX3_keep_38 rfl (z_bipush (pc := 39) hK dX3_keep_39 zc_b16 (z_aload_n (pc := 41) hK 0 dX3_keep_41 rfl (z_getI (pc := 42) hK f_X3_18_3 ht0 dX3_keep_42 (z_iconst (pc := 45) hK dX3_keep_45 zc_i1 (z_iadd (pc := 46) hK dX3_keep_46 (z_mmin (pc := 47) hK q_940 zw_min ⟨by decide, Nat.le_of_ble_eq_true rfl⟩ dX3_keep_47 (z_putI (pc := 50) hK f_X3_18_3 fp_3_2 ht0 dX3_keep_50 (z_nameH eh_5 (z_vretE (pc := 53) hK hE hg dX3_keep_53)))))))))))
set_option maxRecDepth 100000 in
set_option maxHeartbeats 4000000 in
theorem b_X3_keep {K : zK} {G : zG} (hK : zC K G cX3_keep RX3 2 2 39 none) {h : zH} {t0 : Nat} {t1 : Nat} (ht0 : zT t0 = (3, 0)) (ht1 : zT t1 = (6, 0)) {r : zH} (hE : zE K G (none) r) (hg : g_X3_keep h t0 t1 = some r) : zW K G 2 0 [(0, .ref (G.2.2.2 t0)), (1, .ref (G.2.2.2 t1))] [] h := by
  rw [g_X3_keep] at hg
  obtain ⟨c_1, hg⟩ := zgu_some hg
  obtain ⟨v_2, qv_2, hg⟩ := zbind_some hg
  refine z_aload_n (pc := 0) hK 0 dX3_keep_0 rfl (z_getR (pc := 1) hK f_X3_11_3 ht0 dX3_keep_1 (z_aload_n (pc := 4) hK 0 dX3_keep_4 rfl (z_getI (pc := 5) hK f_X3_22_3 ht0 dX3_keep_5 (z_aaldS (pc := 8) hK (zt_3_0 ht0) c_1 dX3_keep_8 (z_aload_n (pc := 9) hK 1 dX3_keep_9 rfl (z_callVv (pc := 10) hK [.ref (G.2.2.2 t1)] (m_X7_become (zC_D hK) (zt_24 (zt_3_0 ht0) (zin_lt c_1)) ht1 qv_2) sv_X7_become q_935 (zt_24 (zt_3_0 ht0) (zin_lt c_1)) rfl [] rfl (Nat.le_of_ble_eq_true rfl) ⟨by decide, by decide⟩ dX3_keep_10 (z_aload_n (pc := 13) hK 0 dX3_keep_13 rfl (z_aload_n (pc := 14) hK 0 dX3_keep_14 rfl (z_getI (pc := 15) hK f_X3_22_3 ht0 dX3_keep_15 (z_iconst (pc := 18) hK dX3_keep_18 zc_i1 (z_iadd (pc := 19) hK dX3_keep_19 (z_bipush (pc := 20) hK dX3_keep_20 zc_b16 (z_icmp_ge (pc := 22) hK 34 dX3_keep_22 (by decide) (fun c_3 => ?_) (fun c_3 => ?_))))))))))))))
  · rw [if_pos c_3] at hg
    exact z_iconst (pc := 34) hK dX3_keep_34 zc_i0 (zsub (lv' := [(0, .ref (G.2.2.2 t0))]) [0] rfl (b_X3_keep_35 hK ht0 ht1 hE 0 v_2 hg))
  · rw [if_neg c_3] at hg
    exact z_aload_n (pc := 25) hK 0 dX3_keep_25 rfl (z_getI (pc := 26) hK f_X3_22_3 ht0 dX3_keep_26 (z_iconst (pc := 29) hK dX3_keep_29 zc_i1 (z_iadd (pc := 30) hK dX3_keep_30 (z_goto (pc := 31) hK 35 dX3_keep_31 (by decide) (zsub (lv' := [(0, .ref (G.2.2.2 t0))]) [0] rfl (b_X3_keep_35 hK ht0 ht1 hE ((v_2.1 t0 1) + 1) v_2 hg))))))
theorem m_X3_keep {l : Launch} {G : zG} (hG : zD G) {h : zH} {t0 : Nat} {t1 : Nat} (ht0 : zT t0 = (3, 0)) (ht1 : zT t1 = (6, 0)) {r : zH} (hg : g_X3_keep h t0 t1 = some r) : zM l G yX3_keep cX3_keep 2 none 2 39 [.ref (G.2.2.2 t0), .ref (G.2.2.2 t1)] h (none) r :=
  zM_of hG pn_X3 (Nat.le_of_ble_eq_true rfl) (fun K _ hK hE => b_X3_keep hK ht0 ht1 hE hg)
theorem dX3_bringBack_0 : decode cX3_bringBack 0 = .ok (.aload_n 0, 1) := by decide +kernel
theorem dX3_bringBack_1 : decode cX3_bringBack 1 = .ok (.getfield 18, 3) := by decide +kernel
theorem dX3_bringBack_4 : decode cX3_bringBack 4 = .ok (.ifCond .ne 5, 3) := by decide +kernel
theorem dX3_bringBack_7 : decode cX3_bringBack 7 = .ok (.iconst 0, 1) := by decide +kernel
theorem dX3_bringBack_8 : decode cX3_bringBack 8 = .ok (.ireturn, 1) := by decide +kernel
theorem dX3_bringBack_9 : decode cX3_bringBack 9 = .ok (.aload_n 0, 1) := by decide +kernel
theorem dX3_bringBack_10 : decode cX3_bringBack 10 = .ok (.aload_n 0, 1) := by decide +kernel
theorem dX3_bringBack_11 : decode cX3_bringBack 11 = .ok (.getfield 22, 3) := by decide +kernel
theorem dX3_bringBack_14 : decode cX3_bringBack 14 = .ok (.ifCond .le 12, 3) := by decide +kernel
theorem dX3_bringBack_17 : decode cX3_bringBack 17 = .ok (.aload_n 0, 1) := by decide +kernel
theorem dX3_bringBack_18 : decode cX3_bringBack 18 = .ok (.getfield 22, 3) := by decide +kernel
theorem dX3_bringBack_21 : decode cX3_bringBack 21 = .ok (.iconst 1, 1) := by decide +kernel
theorem dX3_bringBack_22 : decode cX3_bringBack 22 = .ok (.isub, 1) := by decide +kernel
theorem dX3_bringBack_23 : decode cX3_bringBack 23 = .ok (.goto 5, 3) := by decide +kernel
theorem dX3_bringBack_26 : decode cX3_bringBack 26 = .ok (.bipush 15, 2) := by decide +kernel
theorem dX3_bringBack_28 : decode cX3_bringBack 28 = .ok (.putfield 22, 3) := by decide +kernel
theorem dX3_bringBack_31 : decode cX3_bringBack 31 = .ok (.aload_n 1, 1) := by decide +kernel
theorem dX3_bringBack_32 : decode cX3_bringBack 32 = .ok (.aload_n 0, 1) := by decide +kernel
theorem dX3_bringBack_33 : decode cX3_bringBack 33 = .ok (.getfield 11, 3) := by decide +kernel
theorem dX3_bringBack_36 : decode cX3_bringBack 36 = .ok (.aload_n 0, 1) := by decide +kernel
theorem dX3_bringBack_37 : decode cX3_bringBack 37 = .ok (.getfield 22, 3) := by decide +kernel
theorem dX3_bringBack_40 : decode cX3_bringBack 40 = .ok (.aaload, 1) := by decide +kernel
theorem dX3_bringBack_41 : decode cX3_bringBack 41 = .ok (.invokevirtual 25, 3) := by decide +kernel
theorem dX3_bringBack_44 : decode cX3_bringBack 44 = .ok (.aload_n 0, 1) := by decide +kernel
theorem dX3_bringBack_45 : decode cX3_bringBack 45 = .ok (.dup, 1) := by decide +kernel
theorem dX3_bringBack_46 : decode cX3_bringBack 46 = .ok (.getfield 18, 3) := by decide +kernel
theorem dX3_bringBack_49 : decode cX3_bringBack 49 = .ok (.iconst 1, 1) := by decide +kernel
theorem dX3_bringBack_50 : decode cX3_bringBack 50 = .ok (.isub, 1) := by decide +kernel
theorem dX3_bringBack_51 : decode cX3_bringBack 51 = .ok (.putfield 18, 3) := by decide +kernel
theorem dX3_bringBack_54 : decode cX3_bringBack 54 = .ok (.iconst 1, 1) := by decide +kernel
theorem dX3_bringBack_55 : decode cX3_bringBack 55 = .ok (.ireturn, 1) := by decide +kernel
def g_X3_bringBack_28 (t0 : Nat) (t1 : Nat)  (s0 : Int32) (h : zH) : Option (Bool × zH) := zlet (zpi h t0 1 s0) fun h_3 => zgu (zin (h_3.1 t0 1) 16) <| (g_X7_become h_3 t1 (zR (zR t0 0) (zx (h_3.1 t0 1)))).bind fun v_5 => zlet (zpi v_5 t0 2 ((v_5.1 t0 2) - 1)) fun h_6 => some (true, h_6)
def g_X3_bringBack (h : zH) (t0 : Nat) (t1 : Nat) : Option (Bool × zH) := if (h.1 t0 2) = 0 then (some (false, h)) else (if (h.1 t0 1) ≤ 0 then (g_X3_bringBack_28 t0 t1 15 h) else (g_X3_bringBack_28 t0 t1 ((h.1 t0 1) - 1) h))
set_option maxRecDepth 100000 in
set_option maxHeartbeats 4000000 in
theorem b_X3_bringBack_28 {K : zK} {G : zG} (hK : zC K G cX3_bringBack RX3 2 2 39 (some .boolean)) {t0 t1 : Nat} (ht0 : zT t0 = (3, 0)) (ht1 : zT t1 = (6, 0)) {r : Bool × zH} (hE : zE K G (some (.int (zb r.1))) r.2) (s0 : Int32) (h : zH) (hg : g_X3_bringBack_28 t0 t1 s0 h = some r) : zW K G 2 28 [(0, .ref (G.2.2.2 t0)), (1, .ref (G.2.2.2 t1))] [.int s0, .ref (G.2.2.2 t0)] h := by
  rw [g_X3_bringBack_28] at hg
  obtain ⟨h_3, eh_3, hg⟩ := zlet_some hg
  obtain ⟨c_4, hg⟩ := zgu_some hg
  obtain ⟨v_5, qv_5, hg⟩ := zbind_some hg
  obtain ⟨h_6, eh_6, hg⟩ := zlet_some hg
  exact z_putI (pc := 28) hK f_X3_22_3 fp_3_1 ht0 dX3_bringBack_28 (z_nameH eh_3 (z_aload_n (pc := 31) hK 1 dX3_bringBack_31 rfl (z_aload_n (pc := 32) hK 0 dX3_bringBack_32 rfl (z_getR (pc := 33) hK f_X3_11_3 ht0 dX3_bringBack_33 (z_aload_n (pc := 36) hK 0 dX3_bringBack_36 rfl (z_getI (pc := 37) hK f_X3_22_3 ht0 dX3_bringBack_37 (z_aaldS (pc := 40) hK (zt_3_0 ht0) c_4 dX3_bringBack_40 (z_callVv (pc := 41) hK [.ref (G.2.2.2 (zR (zR t0 0) (zx (h_3.1 t0 1))))] (m_X7_become (zC_D hK) ht1 (zt_24 (zt_3_0 ht0) (zin_lt c_4)) qv_5) sv_X7_become q_935 ht1 rfl [] rfl (Nat.le_of_ble_eq_true rfl) ⟨by decide, by decide⟩ dX3_bringBack_41 (z_aload_n (pc := 44) hK 0 dX3_bringBack_44 rfl (z_dup (pc := 45) hK dX3_bringBack_45 rfl (z_getI (pc := 46) hK f_X3_18_3 ht0 dX3_bringBack_46 (z_iconst (pc := 49) hK dX3_bringBack_49 zc_i1 (z_isub (pc := 50) hK dX3_bringBack_50 (z_putI (pc := 51) hK f_X3_18_3 fp_3_2 ht0 dX3_bringBack_51 (z_nameH eh_6 (z_iconst (pc := 54) hK dX3_bringBack_54 zc_i1 (z_zretE (pc := 55) hK rfl hE hg dX3_bringBack_55)))))))))))))))))
set_option maxRecDepth 100000 in
set_option maxHeartbeats 4000000 in
theorem b_X3_bringBack {K : zK} {G : zG} (hK : zC K G cX3_bringBack RX3 2 2 39 (some .boolean)) {h : zH} {t0 : Nat} {t1 : Nat} (ht0 : zT t0 = (3, 0)) (ht1 : zT t1 = (6, 0)) {r : Bool × zH} (hE : zE K G (some (.int (zb r.1))) r.2) (hg : g_X3_bringBack h t0 t1 = some r) : zW K G 2 0 [(0, .ref (G.2.2.2 t0)), (1, .ref (G.2.2.2 t1))] [] h := by
  rw [g_X3_bringBack] at hg
  refine z_aload_n (pc := 0) hK 0 dX3_bringBack_0 rfl (z_getI (pc := 1) hK f_X3_18_3 ht0 dX3_bringBack_1 (z_if_ne (pc := 4) hK 9 dX3_bringBack_4 (by decide) (fun c_1 => ?_) (fun c_1 => ?_)))
  · rw [if_neg c_1] at hg
    refine z_aload_n (pc := 9) hK 0 dX3_bringBack_9 rfl (z_aload_n (pc := 10) hK 0 dX3_bringBack_10 rfl (z_getI (pc := 11) hK f_X3_22_3 ht0 dX3_bringBack_11 (z_if_le (pc := 14) hK 26 dX3_bringBack_14 (by decide) (fun c_2 => ?_) (fun c_2 => ?_))))
    · rw [if_pos c_2] at hg
      exact z_bipush (pc := 26) hK dX3_bringBack_26 zc_b15 (zsub (lv' := [(0, .ref (G.2.2.2 t0)), (1, .ref (G.2.2.2 t1))]) [0, 1] rfl (b_X3_bringBack_28 hK ht0 ht1 hE 15 h hg))
    · rw [if_neg c_2] at hg
      exact z_aload_n (pc := 17) hK 0 dX3_bringBack_17 rfl (z_getI (pc := 18) hK f_X3_22_3 ht0 dX3_bringBack_18 (z_iconst (pc := 21) hK dX3_bringBack_21 zc_i1 (z_isub (pc := 22) hK dX3_bringBack_22 (z_goto (pc := 23) hK 28 dX3_bringBack_23 (by decide) (zsub (lv' := [(0, .ref (G.2.2.2 t0)), (1, .ref (G.2.2.2 t1))]) [0, 1] rfl (b_X3_bringBack_28 hK ht0 ht1 hE ((h.1 t0 1) - 1) h hg))))))
  · rw [if_pos c_1] at hg
    exact z_iconst (pc := 7) hK dX3_bringBack_7 zc_i0 (z_zretE (pc := 8) hK rfl hE hg dX3_bringBack_8)
theorem m_X3_bringBack {l : Launch} {G : zG} (hG : zD G) {h : zH} {t0 : Nat} {t1 : Nat} (ht0 : zT t0 = (3, 0)) (ht1 : zT t1 = (6, 0)) {r : Bool × zH} (hg : g_X3_bringBack h t0 t1 = some r) : zM l G yX3_bringBack cX3_bringBack 2 (some .boolean) 2 39 [.ref (G.2.2.2 t0), .ref (G.2.2.2 t1)] h (some (.int (zb r.1))) r.2 :=
  zM_of hG pn_X3 (Nat.le_of_ble_eq_true rfl) (fun K _ hK hE => b_X3_bringBack hK ht0 ht1 hE hg)
theorem dX5_clear_0 : decode cX5_clear 0 = .ok (.aload_n 0, 1) := by decide +kernel
theorem dX5_clear_1 : decode cX5_clear 1 = .ok (.getfield 25, 3) := by decide +kernel
theorem dX5_clear_4 : decode cX5_clear 4 = .ok (.iconst (-1), 1) := by decide +kernel
theorem dX5_clear_5 : decode cX5_clear 5 = .ok (.invokestatic 42, 3) := by decide +kernel
theorem dX5_clear_8 : decode cX5_clear 8 = .ok (.aload_n 0, 1) := by decide +kernel
theorem dX5_clear_9 : decode cX5_clear 9 = .ok (.getfield 28, 3) := by decide +kernel
theorem dX5_clear_12 : decode cX5_clear 12 = .ok (.iconst (-1), 1) := by decide +kernel
theorem dX5_clear_13 : decode cX5_clear 13 = .ok (.invokestatic 42, 3) := by decide +kernel
theorem dX5_clear_16 : decode cX5_clear 16 = .ok (.aload_n 0, 1) := by decide +kernel
theorem dX5_clear_17 : decode cX5_clear 17 = .ok (.getfield 34, 3) := by decide +kernel
theorem dX5_clear_20 : decode cX5_clear 20 = .ok (.invokevirtual 48, 3) := by decide +kernel
theorem dX5_clear_23 : decode cX5_clear 23 = .ok (.aload_n 0, 1) := by decide +kernel
theorem dX5_clear_24 : decode cX5_clear 24 = .ok (.iconst 0, 1) := by decide +kernel
theorem dX5_clear_25 : decode cX5_clear 25 = .ok (.putfield 51, 3) := by decide +kernel
theorem dX5_clear_28 : decode cX5_clear 28 = .ok (.aload_n 0, 1) := by decide +kernel
theorem dX5_clear_29 : decode cX5_clear 29 = .ok (.bipush 7, 2) := by decide +kernel
theorem dX5_clear_31 : decode cX5_clear 31 = .ok (.putfield 38, 3) := by decide +kernel
theorem dX5_clear_34 : decode cX5_clear 34 = .ok (.aload_n 0, 1) := by decide +kernel
theorem dX5_clear_35 : decode cX5_clear 35 = .ok (.iconst 0, 1) := by decide +kernel
theorem dX5_clear_36 : decode cX5_clear 36 = .ok (.putfield 54, 3) := by decide +kernel
theorem dX5_clear_39 : decode cX5_clear 39 = .ok (.aload_n 0, 1) := by decide +kernel
theorem dX5_clear_40 : decode cX5_clear 40 = .ok (.iconst 0, 1) := by decide +kernel
theorem dX5_clear_41 : decode cX5_clear 41 = .ok (.putfield 58, 3) := by decide +kernel
theorem dX5_clear_44 : decode cX5_clear 44 = .ok (.return_, 1) := by decide +kernel
def g_X5_clear (h : zH) (t0 : Nat) : Option zH := (g_J7_fill_53178 h (zR t0 4) 7 (-1)).bind fun v_1 => (g_J7_fill_53178 v_1 (zR t0 5) 49 (-1)).bind fun v_2 => (g_X1_clear v_2 (zR t0 6)).bind fun v_3 => zlet (zpi v_3 t0 7 0) fun h_4 => zlet (zpi h_4 t0 8 7) fun h_5 => zlet (zpi h_5 t0 9 0) fun h_6 => zlet (zpi h_6 t0 10 0) fun h_7 => some h_7
set_option maxRecDepth 100000 in
set_option maxHeartbeats 4000000 in
theorem b_X5_clear {K : zK} {G : zG} (hK : zC K G cX5_clear RX5 1 1 23 none) {h : zH} {t0 : Nat} (ht0 : zT t0 = (4, 0)) {r : zH} (hE : zE K G (none) r) (hg : g_X5_clear h t0 = some r) : zW K G 1 0 [(0, .ref (G.2.2.2 t0))] [] h := by
  rw [g_X5_clear] at hg
  obtain ⟨v_1, qv_1, hg⟩ := zbind_some hg
  obtain ⟨v_2, qv_2, hg⟩ := zbind_some hg
  obtain ⟨v_3, qv_3, hg⟩ := zbind_some hg
  obtain ⟨h_4, eh_4, hg⟩ := zlet_some hg
  obtain ⟨h_5, eh_5, hg⟩ := zlet_some hg
  obtain ⟨h_6, eh_6, hg⟩ := zlet_some hg
  obtain ⟨h_7, eh_7, hg⟩ := zlet_some hg
  exact z_aload_n (pc := 0) hK 0 dX5_clear_0 rfl (z_getR (pc := 1) hK f_X5_25_4 ht0 dX5_clear_1 (z_iconst (pc := 4) hK dX5_clear_4 zc_im1 (z_callSv (pc := 5) hK [.ref (G.2.2.2 (zR t0 4)), .int (-1)] (m_J7_fill_53178 (zC_D hK) (zt_4_4 ht0) qv_1) ss_J7_fill_53178 q_522 rfl [] rfl (Nat.le_of_ble_eq_true rfl) ⟨by decide, by decide⟩ dX5_clear_5 (z_aload_n (pc := 8) hK 0 dX5_clear_8 rfl (z_getR (pc := 9) hK f_X5_28_4 ht0 dX5_clear_9 (z_iconst (pc := 12) hK dX5_clear_12 zc_im1 (z_callSv (pc := 13) hK [.ref (G.2.2.2 (zR t0 5)), .int (-1)] (m_J7_fill_53178 (zC_D hK) (zt_4_5 ht0) qv_2) ss_J7_fill_53178 q_522 rfl [] rfl (Nat.le_of_ble_eq_true rfl) ⟨by decide, by decide⟩ dX5_clear_13 (z_aload_n (pc := 16) hK 0 dX5_clear_16 rfl (z_getR (pc := 17) hK f_X5_34_4 ht0 dX5_clear_17 (z_callVv (pc := 20) hK [] (m_X1_clear (zC_D hK) (zt_4_6 ht0) qv_3) sv_X1_clear q_525 (zt_4_6 ht0) rfl [] rfl (Nat.le_of_ble_eq_true rfl) ⟨by decide, by decide⟩ dX5_clear_20 (z_aload_n (pc := 23) hK 0 dX5_clear_23 rfl (z_iconst (pc := 24) hK dX5_clear_24 zc_i0 (z_putI (pc := 25) hK f_X5_51_4 fp_4_7 ht0 dX5_clear_25 (z_nameH eh_4 (z_aload_n (pc := 28) hK 0 dX5_clear_28 rfl (z_bipush (pc := 29) hK dX5_clear_29 zc_b7 (z_putI (pc := 31) hK f_X5_38_4 fp_4_8 ht0 dX5_clear_31 (z_nameH eh_5 (z_aload_n (pc := 34) hK 0 dX5_clear_34 rfl (z_iconst (pc := 35) hK dX5_clear_35 zc_i0 (z_putZ (pc := 36) hK f_X5_54_4 fp_4_9 rfl ht0 dX5_clear_36 (z_nameH eh_6 (z_aload_n (pc := 39) hK 0 dX5_clear_39 rfl (z_iconst (pc := 40) hK dX5_clear_40 zc_i0 (z_putZ (pc := 41) hK f_X5_58_4 fp_4_10 rfl ht0 dX5_clear_41 (z_nameH eh_7 (z_vretE (pc := 44) hK hE hg dX5_clear_44)))))))))))))))))))))))))))
theorem m_X5_clear {l : Launch} {G : zG} (hG : zD G) {h : zH} {t0 : Nat} (ht0 : zT t0 = (4, 0)) {r : zH} (hg : g_X5_clear h t0 = some r) : zM l G yX5_clear cX5_clear 1 none 1 23 [.ref (G.2.2.2 t0)] h (none) r :=
  zM_of hG pn_X5 (Nat.le_of_ble_eq_true rfl) (fun K _ hK hE => b_X5_clear hK ht0 hE hg)
theorem dX5_become_0 : decode cX5_become 0 = .ok (.aload_n 1, 1) := by decide +kernel
theorem dX5_become_1 : decode cX5_become 1 = .ok (.getfield 9, 3) := by decide +kernel
theorem dX5_become_4 : decode cX5_become 4 = .ok (.iconst 0, 1) := by decide +kernel
theorem dX5_become_5 : decode cX5_become 5 = .ok (.aload_n 0, 1) := by decide +kernel
theorem dX5_become_6 : decode cX5_become 6 = .ok (.getfield 9, 3) := by decide +kernel
theorem dX5_become_9 : decode cX5_become 9 = .ok (.iconst 0, 1) := by decide +kernel
theorem dX5_become_10 : decode cX5_become 10 = .ok (.bipush 7, 2) := by decide +kernel
theorem dX5_become_12 : decode cX5_become 12 = .ok (.invokestatic 61, 3) := by decide +kernel
theorem dX5_become_15 : decode cX5_become 15 = .ok (.aload_n 1, 1) := by decide +kernel
theorem dX5_become_16 : decode cX5_become 16 = .ok (.getfield 15, 3) := by decide +kernel
theorem dX5_become_19 : decode cX5_become 19 = .ok (.iconst 0, 1) := by decide +kernel
theorem dX5_become_20 : decode cX5_become 20 = .ok (.aload_n 0, 1) := by decide +kernel
theorem dX5_become_21 : decode cX5_become 21 = .ok (.getfield 15, 3) := by decide +kernel
theorem dX5_become_24 : decode cX5_become 24 = .ok (.iconst 0, 1) := by decide +kernel
theorem dX5_become_25 : decode cX5_become 25 = .ok (.bipush 7, 2) := by decide +kernel
theorem dX5_become_27 : decode cX5_become 27 = .ok (.invokestatic 61, 3) := by decide +kernel
theorem dX5_become_30 : decode cX5_become 30 = .ok (.aload_n 1, 1) := by decide +kernel
theorem dX5_become_31 : decode cX5_become 31 = .ok (.getfield 19, 3) := by decide +kernel
theorem dX5_become_34 : decode cX5_become 34 = .ok (.iconst 0, 1) := by decide +kernel
theorem dX5_become_35 : decode cX5_become 35 = .ok (.aload_n 0, 1) := by decide +kernel
theorem dX5_become_36 : decode cX5_become 36 = .ok (.getfield 19, 3) := by decide +kernel
theorem dX5_become_39 : decode cX5_become 39 = .ok (.iconst 0, 1) := by decide +kernel
theorem dX5_become_40 : decode cX5_become 40 = .ok (.bipush 7, 2) := by decide +kernel
theorem dX5_become_42 : decode cX5_become 42 = .ok (.invokestatic 61, 3) := by decide +kernel
theorem dX5_become_45 : decode cX5_become 45 = .ok (.aload_n 1, 1) := by decide +kernel
theorem dX5_become_46 : decode cX5_become 46 = .ok (.getfield 22, 3) := by decide +kernel
theorem dX5_become_49 : decode cX5_become 49 = .ok (.iconst 0, 1) := by decide +kernel
theorem dX5_become_50 : decode cX5_become 50 = .ok (.aload_n 0, 1) := by decide +kernel
theorem dX5_become_51 : decode cX5_become 51 = .ok (.getfield 22, 3) := by decide +kernel
theorem dX5_become_54 : decode cX5_become 54 = .ok (.iconst 0, 1) := by decide +kernel
theorem dX5_become_55 : decode cX5_become 55 = .ok (.bipush 7, 2) := by decide +kernel
theorem dX5_become_57 : decode cX5_become 57 = .ok (.invokestatic 61, 3) := by decide +kernel
theorem dX5_become_60 : decode cX5_become 60 = .ok (.aload_n 1, 1) := by decide +kernel
theorem dX5_become_61 : decode cX5_become 61 = .ok (.getfield 25, 3) := by decide +kernel
theorem dX5_become_64 : decode cX5_become 64 = .ok (.iconst 0, 1) := by decide +kernel
theorem dX5_become_65 : decode cX5_become 65 = .ok (.aload_n 0, 1) := by decide +kernel
theorem dX5_become_66 : decode cX5_become 66 = .ok (.getfield 25, 3) := by decide +kernel
theorem dX5_become_69 : decode cX5_become 69 = .ok (.iconst 0, 1) := by decide +kernel
theorem dX5_become_70 : decode cX5_become 70 = .ok (.bipush 7, 2) := by decide +kernel
theorem dX5_become_72 : decode cX5_become 72 = .ok (.invokestatic 61, 3) := by decide +kernel
theorem dX5_become_75 : decode cX5_become 75 = .ok (.aload_n 1, 1) := by decide +kernel
theorem dX5_become_76 : decode cX5_become 76 = .ok (.getfield 28, 3) := by decide +kernel
theorem dX5_become_79 : decode cX5_become 79 = .ok (.iconst 0, 1) := by decide +kernel
theorem dX5_become_80 : decode cX5_become 80 = .ok (.aload_n 0, 1) := by decide +kernel
theorem dX5_become_81 : decode cX5_become 81 = .ok (.getfield 28, 3) := by decide +kernel
theorem dX5_become_84 : decode cX5_become 84 = .ok (.iconst 0, 1) := by decide +kernel
theorem dX5_become_85 : decode cX5_become 85 = .ok (.bipush 49, 2) := by decide +kernel
theorem dX5_become_87 : decode cX5_become 87 = .ok (.invokestatic 61, 3) := by decide +kernel
theorem dX5_become_90 : decode cX5_become 90 = .ok (.aload_n 0, 1) := by decide +kernel
theorem dX5_become_91 : decode cX5_become 91 = .ok (.getfield 34, 3) := by decide +kernel
theorem dX5_become_94 : decode cX5_become 94 = .ok (.aload_n 1, 1) := by decide +kernel
theorem dX5_become_95 : decode cX5_become 95 = .ok (.getfield 34, 3) := by decide +kernel
theorem dX5_become_98 : decode cX5_become 98 = .ok (.invokevirtual 67, 3) := by decide +kernel
theorem dX5_become_101 : decode cX5_become 101 = .ok (.aload_n 0, 1) := by decide +kernel
theorem dX5_become_102 : decode cX5_become 102 = .ok (.aload_n 1, 1) := by decide +kernel
theorem dX5_become_103 : decode cX5_become 103 = .ok (.getfield 51, 3) := by decide +kernel
theorem dX5_become_106 : decode cX5_become 106 = .ok (.putfield 51, 3) := by decide +kernel
theorem dX5_become_109 : decode cX5_become 109 = .ok (.aload_n 0, 1) := by decide +kernel
theorem dX5_become_110 : decode cX5_become 110 = .ok (.aload_n 1, 1) := by decide +kernel
theorem dX5_become_111 : decode cX5_become 111 = .ok (.getfield 38, 3) := by decide +kernel
theorem dX5_become_114 : decode cX5_become 114 = .ok (.putfield 38, 3) := by decide +kernel
theorem dX5_become_117 : decode cX5_become 117 = .ok (.aload_n 0, 1) := by decide +kernel
theorem dX5_become_118 : decode cX5_become 118 = .ok (.aload_n 1, 1) := by decide +kernel
theorem dX5_become_119 : decode cX5_become 119 = .ok (.getfield 54, 3) := by decide +kernel
theorem dX5_become_122 : decode cX5_become 122 = .ok (.putfield 54, 3) := by decide +kernel
theorem dX5_become_125 : decode cX5_become 125 = .ok (.aload_n 0, 1) := by decide +kernel
theorem dX5_become_126 : decode cX5_become 126 = .ok (.aload_n 1, 1) := by decide +kernel
theorem dX5_become_127 : decode cX5_become 127 = .ok (.getfield 58, 3) := by decide +kernel
theorem dX5_become_130 : decode cX5_become 130 = .ok (.putfield 58, 3) := by decide +kernel
theorem dX5_become_133 : decode cX5_become 133 = .ok (.return_, 1) := by decide +kernel
def g_X5_become (h : zH) (t0 : Nat) (t1 : Nat) : Option zH := zgu (zcg 0 0 7 7 7) <| zlet (zcpl h (zR t1 0) (zx 0) (zR t0 0) (zx 0) (zx 7)) fun h_2 => zgu (zcg 0 0 7 7 7) <| zlet (zcpi h_2 (zR t1 1) (zx 0) (zR t0 1) (zx 0) (zx 7)) fun h_4 => zgu (zcg 0 0 7 7 7) <| zlet (zcpi h_4 (zR t1 2) (zx 0) (zR t0 2) (zx 0) (zx 7)) fun h_6 => zgu (zcg 0 0 7 7 7) <| zlet (zcpi h_6 (zR t1 3) (zx 0) (zR t0 3) (zx 0) (zx 7)) fun h_8 => zgu (zcg 0 0 7 7 7) <| zlet (zcpi h_8 (zR t1 4) (zx 0) (zR t0 4) (zx 0) (zx 7)) fun h_10 => zgu (zcg 0 0 49 49 49) <| zlet (zcpi h_10 (zR t1 5) (zx 0) (zR t0 5) (zx 0) (zx 49)) fun h_12 => (g_X1_become h_12 (zR t0 6) (zR t1 6)).bind fun v_13 => zlet (zpi v_13 t0 7 (v_13.1 t1 7)) fun h_14 => zlet (zpi h_14 t0 8 (h_14.1 t1 8)) fun h_15 => zgu (zbit (h_15.1 t1 9)) <| zlet (zpi h_15 t0 9 (h_15.1 t1 9)) fun h_17 => zgu (zbit (h_17.1 t1 10)) <| zlet (zpi h_17 t0 10 (h_17.1 t1 10)) fun h_19 => some h_19
set_option maxRecDepth 100000 in
set_option maxHeartbeats 4000000 in
theorem b_X5_become {K : zK} {G : zG} (hK : zC K G cX5_become RX5 2 2 39 none) {h : zH} {t0 : Nat} {t1 : Nat} (ht0 : zT t0 = (4, 0)) (ht1 : zT t1 = (4, 0)) {r : zH} (hE : zE K G (none) r) (hg : g_X5_become h t0 t1 = some r) : zW K G 2 0 [(0, .ref (G.2.2.2 t0)), (1, .ref (G.2.2.2 t1))] [] h := by
  rw [g_X5_become] at hg
  obtain ⟨c_1, hg⟩ := zgu_some hg
  obtain ⟨h_2, eh_2, hg⟩ := zlet_some hg
  obtain ⟨c_3, hg⟩ := zgu_some hg
  obtain ⟨h_4, eh_4, hg⟩ := zlet_some hg
  obtain ⟨c_5, hg⟩ := zgu_some hg
  obtain ⟨h_6, eh_6, hg⟩ := zlet_some hg
  obtain ⟨c_7, hg⟩ := zgu_some hg
  obtain ⟨h_8, eh_8, hg⟩ := zlet_some hg
  obtain ⟨c_9, hg⟩ := zgu_some hg
  obtain ⟨h_10, eh_10, hg⟩ := zlet_some hg
  obtain ⟨c_11, hg⟩ := zgu_some hg
  obtain ⟨h_12, eh_12, hg⟩ := zlet_some hg
  obtain ⟨v_13, qv_13, hg⟩ := zbind_some hg
  obtain ⟨h_14, eh_14, hg⟩ := zlet_some hg
  obtain ⟨h_15, eh_15, hg⟩ := zlet_some hg
  obtain ⟨c_16, hg⟩ := zgu_some hg
  obtain ⟨h_17, eh_17, hg⟩ := zlet_some hg
  obtain ⟨c_18, hg⟩ := zgu_some hg
  obtain ⟨h_19, eh_19, hg⟩ := zlet_some hg
  exact z_aload_n (pc := 0) hK 1 dX5_become_0 rfl (z_getR (pc := 1) hK f_X5_9_4 ht1 dX5_become_1 (z_iconst (pc := 4) hK dX5_become_4 zc_i0 (z_aload_n (pc := 5) hK 0 dX5_become_5 rfl (z_getR (pc := 6) hK f_X5_9_4 ht0 dX5_become_6 (z_iconst (pc := 9) hK dX5_become_9 zc_i0 (z_bipush (pc := 10) hK dX5_become_10 zc_b7 (z_copyl (pc := 12) hK q_835 zw_copy (zt_4_0 ht1) (zt_4_0 ht0) c_1 ⟨by decide, Nat.le_of_ble_eq_true rfl⟩ dX5_become_12 (z_nameH eh_2 (z_aload_n (pc := 15) hK 1 dX5_become_15 rfl (z_getR (pc := 16) hK f_X5_15_4 ht1 dX5_become_16 (z_iconst (pc := 19) hK dX5_become_19 zc_i0 (z_aload_n (pc := 20) hK 0 dX5_become_20 rfl (z_getR (pc := 21) hK f_X5_15_4 ht0 dX5_become_21 (z_iconst (pc := 24) hK dX5_become_24 zc_i0 (z_bipush (pc := 25) hK dX5_become_25 zc_b7 (z_copyi (pc := 27) hK q_835 zw_copy (zt_4_1 ht1) (zt_4_1 ht0) c_3 ⟨by decide, Nat.le_of_ble_eq_true rfl⟩ dX5_become_27 (z_nameH eh_4 (z_aload_n (pc := 30) hK 1 dX5_become_30 rfl (z_getR (pc := 31) hK f_X5_19_4 ht1 dX5_become_31 (z_iconst (pc := 34) hK dX5_become_34 zc_i0 (z_aload_n (pc := 35) hK 0 dX5_become_35 rfl (z_getR (pc := 36) hK f_X5_19_4 ht0 dX5_become_36 (z_iconst (pc := 39) hK dX5_become_39 zc_i0 (z_bipush (pc := 40) hK dX5_become_40 zc_b7 (z_copyi (pc := 42) hK q_835 zw_copy (zt_4_2 ht1) (zt_4_2 ht0) c_5 ⟨by decide, Nat.le_of_ble_eq_true rfl⟩ dX5_become_42 (z_nameH eh_6 (z_aload_n (pc := 45) hK 1 dX5_become_45 rfl (z_getR (pc := 46) hK f_X5_22_4 ht1 dX5_become_46 (z_iconst (pc := 49) hK dX5_become_49 zc_i0 (z_aload_n (pc := 50) hK 0 dX5_become_50 rfl (z_getR (pc := 51) hK f_X5_22_4 ht0 dX5_become_51 (z_iconst (pc := 54) hK dX5_become_54 zc_i0 (z_bipush (pc := 55) hK dX5_become_55 zc_b7 (z_copyi (pc := 57) hK q_835 zw_copy (zt_4_3 ht1) (zt_4_3 ht0) c_7 ⟨by decide, Nat.le_of_ble_eq_true rfl⟩ dX5_become_57 (z_nameH eh_8 (z_aload_n (pc := 60) hK 1 dX5_become_60 rfl (z_getR (pc := 61) hK f_X5_25_4 ht1 dX5_become_61 (z_iconst (pc := 64) hK dX5_become_64 zc_i0 (z_aload_n (pc := 65) hK 0 dX5_become_65 rfl (z_getR (pc := 66) hK f_X5_25_4 ht0 dX5_become_66 (z_iconst (pc := 69) hK dX5_become_69 zc_i0 (z_bipush (pc := 70) hK dX5_become_70 zc_b7 (z_copyi (pc := 72) hK q_835 zw_copy (zt_4_4 ht1) (zt_4_4 ht0) c_9 ⟨by decide, Nat.le_of_ble_eq_true rfl⟩ dX5_become_72 (z_nameH eh_10 (z_aload_n (pc := 75) hK 1 dX5_become_75 rfl (z_getR (pc := 76) hK f_X5_28_4 ht1 dX5_become_76 (z_iconst (pc := 79) hK dX5_become_79 zc_i0 (z_aload_n (pc := 80) hK 0 dX5_become_80 rfl (z_getR (pc := 81) hK f_X5_28_4 ht0 dX5_become_81 (z_iconst (pc := 84) hK dX5_become_84 zc_i0 (z_bipush (pc := 85) hK dX5_become_85 zc_b49 (z_copyi (pc := 87) hK q_835 zw_copy (zt_4_5 ht1) (zt_4_5 ht0) c_11 ⟨by decide, Nat.le_of_ble_eq_true rfl⟩ dX5_become_87 (z_nameH eh_12 (z_aload_n (pc := 90) hK 0 dX5_become_90 rfl (z_getR (pc := 91) hK f_X5_34_4 ht0 dX5_become_91 (z_aload_n (pc := 94) hK 1 dX5_become_94 rfl (z_getR (pc := 95) hK f_X5_34_4 ht1 dX5_become_95 (z_callVv (pc := 98) hK [.ref (G.2.2.2 (zR t1 6))] (m_X1_become (zC_D hK) (zt_4_6 ht0) (zt_4_6 ht1) qv_13) sv_X1_become q_838 (zt_4_6 ht0) rfl [] rfl (Nat.le_of_ble_eq_true rfl) ⟨by decide, by decide⟩ dX5_become_98 (z_aload_n (pc := 101) hK 0 dX5_become_101 rfl (z_aload_n (pc := 102) hK 1 dX5_become_102 rfl (z_getI (pc := 103) hK f_X5_51_4 ht1 dX5_become_103 (z_putI (pc := 106) hK f_X5_51_4 fp_4_7 ht0 dX5_become_106 (z_nameH eh_14 (z_aload_n (pc := 109) hK 0 dX5_become_109 rfl (z_aload_n (pc := 110) hK 1 dX5_become_110 rfl (z_getI (pc := 111) hK f_X5_38_4 ht1 dX5_become_111 (z_putI (pc := 114) hK f_X5_38_4 fp_4_8 ht0 dX5_become_114 (z_nameH eh_15 (z_aload_n (pc := 117) hK 0 dX5_become_117 rfl (z_aload_n (pc := 118) hK 1 dX5_become_118 rfl (z_getI (pc := 119) hK f_X5_54_4 ht1 dX5_become_119 (z_putZ (pc := 122) hK f_X5_54_4 fp_4_9 c_16 ht0 dX5_become_122 (z_nameH eh_17 (z_aload_n (pc := 125) hK 0 dX5_become_125 rfl (z_aload_n (pc := 126) hK 1 dX5_become_126 rfl (z_getI (pc := 127) hK f_X5_58_4 ht1 dX5_become_127 (z_putZ (pc := 130) hK f_X5_58_4 fp_4_10 c_18 ht0 dX5_become_130 (z_nameH eh_19 (z_vretE (pc := 133) hK hE hg dX5_become_133)))))))))))))))))))))))))))))))))))))))))))))))))))))))))))))))))))))))))))))))
theorem m_X5_become {l : Launch} {G : zG} (hG : zD G) {h : zH} {t0 : Nat} {t1 : Nat} (ht0 : zT t0 = (4, 0)) (ht1 : zT t1 = (4, 0)) {r : zH} (hg : g_X5_become h t0 t1 = some r) : zM l G yX5_become cX5_become 2 none 2 39 [.ref (G.2.2.2 t0), .ref (G.2.2.2 t1)] h (none) r :=
  zM_of hG pn_X5 (Nat.le_of_ble_eq_true rfl) (fun K _ hK hE => b_X5_become hK ht0 ht1 hE hg)
theorem dX5_addPerson_0 : decode cX5_addPerson 0 = .ok (.aload_n 0, 1) := by decide +kernel
theorem dX5_addPerson_1 : decode cX5_addPerson 1 = .ok (.getfield 51, 3) := by decide +kernel
theorem dX5_addPerson_4 : decode cX5_addPerson 4 = .ok (.bipush 7, 2) := by decide +kernel
theorem dX5_addPerson_6 : decode cX5_addPerson 6 = .ok (.if_icmp .ge 55, 3) := by decide +kernel
theorem dX5_addPerson_9 : decode cX5_addPerson 9 = .ok (.aload_n 0, 1) := by decide +kernel
theorem dX5_addPerson_10 : decode cX5_addPerson 10 = .ok (.getfield 9, 3) := by decide +kernel
theorem dX5_addPerson_13 : decode cX5_addPerson 13 = .ok (.aload_n 0, 1) := by decide +kernel
theorem dX5_addPerson_14 : decode cX5_addPerson 14 = .ok (.getfield 51, 3) := by decide +kernel
theorem dX5_addPerson_17 : decode cX5_addPerson 17 = .ok (.lload_n 1, 1) := by decide +kernel
theorem dX5_addPerson_18 : decode cX5_addPerson 18 = .ok (.lastore, 1) := by decide +kernel
theorem dX5_addPerson_19 : decode cX5_addPerson 19 = .ok (.aload_n 0, 1) := by decide +kernel
theorem dX5_addPerson_20 : decode cX5_addPerson 20 = .ok (.getfield 15, 3) := by decide +kernel
theorem dX5_addPerson_23 : decode cX5_addPerson 23 = .ok (.aload_n 0, 1) := by decide +kernel
theorem dX5_addPerson_24 : decode cX5_addPerson 24 = .ok (.getfield 51, 3) := by decide +kernel
theorem dX5_addPerson_27 : decode cX5_addPerson 27 = .ok (.iload_n 3, 1) := by decide +kernel
theorem dX5_addPerson_28 : decode cX5_addPerson 28 = .ok (.iastore, 1) := by decide +kernel
theorem dX5_addPerson_29 : decode cX5_addPerson 29 = .ok (.aload_n 0, 1) := by decide +kernel
theorem dX5_addPerson_30 : decode cX5_addPerson 30 = .ok (.getfield 19, 3) := by decide +kernel
theorem dX5_addPerson_33 : decode cX5_addPerson 33 = .ok (.aload_n 0, 1) := by decide +kernel
theorem dX5_addPerson_34 : decode cX5_addPerson 34 = .ok (.getfield 51, 3) := by decide +kernel
theorem dX5_addPerson_37 : decode cX5_addPerson 37 = .ok (.iload 4, 2) := by decide +kernel
theorem dX5_addPerson_39 : decode cX5_addPerson 39 = .ok (.iastore, 1) := by decide +kernel
theorem dX5_addPerson_40 : decode cX5_addPerson 40 = .ok (.aload_n 0, 1) := by decide +kernel
theorem dX5_addPerson_41 : decode cX5_addPerson 41 = .ok (.getfield 22, 3) := by decide +kernel
theorem dX5_addPerson_44 : decode cX5_addPerson 44 = .ok (.aload_n 0, 1) := by decide +kernel
theorem dX5_addPerson_45 : decode cX5_addPerson 45 = .ok (.getfield 51, 3) := by decide +kernel
theorem dX5_addPerson_48 : decode cX5_addPerson 48 = .ok (.iload 5, 2) := by decide +kernel
theorem dX5_addPerson_50 : decode cX5_addPerson 50 = .ok (.iastore, 1) := by decide +kernel
theorem dX5_addPerson_51 : decode cX5_addPerson 51 = .ok (.aload_n 0, 1) := by decide +kernel
theorem dX5_addPerson_52 : decode cX5_addPerson 52 = .ok (.dup, 1) := by decide +kernel
theorem dX5_addPerson_53 : decode cX5_addPerson 53 = .ok (.getfield 51, 3) := by decide +kernel
theorem dX5_addPerson_56 : decode cX5_addPerson 56 = .ok (.iconst 1, 1) := by decide +kernel
theorem dX5_addPerson_57 : decode cX5_addPerson 57 = .ok (.iadd, 1) := by decide +kernel
theorem dX5_addPerson_58 : decode cX5_addPerson 58 = .ok (.putfield 51, 3) := by decide +kernel
theorem dX5_addPerson_61 : decode cX5_addPerson 61 = .ok (.return_, 1) := by decide +kernel
def g_X5_addPerson (h : zH) (t0 : Nat) (x1 : Int64) (x3 : Int32) (x4 : Int32) (x5 : Int32) : Option zH := if 7 ≤ (h.1 t0 7) then (some h) else (zgu (zin (h.1 t0 7) 7) <| zlet (zpl h (zR t0 0) (zx (h.1 t0 7)) x1) fun h_3 => zgu (zin (h_3.1 t0 7) 7) <| zlet (zpi h_3 (zR t0 1) (zx (h_3.1 t0 7)) x3) fun h_5 => zgu (zin (h_5.1 t0 7) 7) <| zlet (zpi h_5 (zR t0 2) (zx (h_5.1 t0 7)) x4) fun h_7 => zgu (zin (h_7.1 t0 7) 7) <| zlet (zpi h_7 (zR t0 3) (zx (h_7.1 t0 7)) x5) fun h_9 => zlet (zpi h_9 t0 7 ((h_9.1 t0 7) + 1)) fun h_10 => some h_10)
set_option maxRecDepth 100000 in
set_option maxHeartbeats 4000000 in
theorem b_X5_addPerson {K : zK} {G : zG} (hK : zC K G cX5_addPerson RX5 6 0 0 none) {h : zH} {t0 : Nat} {x1 : Int64} {x3 : Int32} {x4 : Int32} {x5 : Int32} (ht0 : zT t0 = (4, 0)) {r : zH} (hE : zE K G (none) r) (hg : g_X5_addPerson h t0 x1 x3 x4 x5 = some r) : zW K G 6 0 [(0, .ref (G.2.2.2 t0)), (1, .long x1), (3, .int x3), (4, .int x4), (5, .int x5)] [] h := by
  rw [g_X5_addPerson] at hg
  refine z_aload_n (pc := 0) hK 0 dX5_addPerson_0 rfl (z_getI (pc := 1) hK f_X5_51_4 ht0 dX5_addPerson_1 (z_bipush (pc := 4) hK dX5_addPerson_4 zc_b7 (z_icmp_ge (pc := 6) hK 61 dX5_addPerson_6 (by decide) (fun c_1 => ?_) (fun c_1 => ?_))))
  · rw [if_pos c_1] at hg
    exact z_vretE (pc := 61) hK hE hg dX5_addPerson_61
  · rw [if_neg c_1] at hg
    obtain ⟨c_2, hg⟩ := zgu_some hg
    obtain ⟨h_3, eh_3, hg⟩ := zlet_some hg
    obtain ⟨c_4, hg⟩ := zgu_some hg
    obtain ⟨h_5, eh_5, hg⟩ := zlet_some hg
    obtain ⟨c_6, hg⟩ := zgu_some hg
    obtain ⟨h_7, eh_7, hg⟩ := zlet_some hg
    obtain ⟨c_8, hg⟩ := zgu_some hg
    obtain ⟨h_9, eh_9, hg⟩ := zlet_some hg
    obtain ⟨h_10, eh_10, hg⟩ := zlet_some hg
    exact z_aload_n (pc := 9) hK 0 dX5_addPerson_9 rfl (z_getR (pc := 10) hK f_X5_9_4 ht0 dX5_addPerson_10 (z_aload_n (pc := 13) hK 0 dX5_addPerson_13 rfl (z_getI (pc := 14) hK f_X5_51_4 ht0 dX5_addPerson_14 (z_lload_n (pc := 17) hK 1 dX5_addPerson_17 rfl (z_last (pc := 18) hK (zt_4_0 ht0) c_2 dX5_addPerson_18 (z_nameH eh_3 (z_aload_n (pc := 19) hK 0 dX5_addPerson_19 rfl (z_getR (pc := 20) hK f_X5_15_4 ht0 dX5_addPerson_20 (z_aload_n (pc := 23) hK 0 dX5_addPerson_23 rfl (z_getI (pc := 24) hK f_X5_51_4 ht0 dX5_addPerson_24 (z_iload_n (pc := 27) hK 2 dX5_addPerson_27 rfl (z_iast (pc := 28) hK (zt_4_1 ht0) c_4 dX5_addPerson_28 (z_nameH eh_5 (z_aload_n (pc := 29) hK 0 dX5_addPerson_29 rfl (z_getR (pc := 30) hK f_X5_19_4 ht0 dX5_addPerson_30 (z_aload_n (pc := 33) hK 0 dX5_addPerson_33 rfl (z_getI (pc := 34) hK f_X5_51_4 ht0 dX5_addPerson_34 (z_iload (pc := 37) hK 3 dX5_addPerson_37 rfl (z_iast (pc := 39) hK (zt_4_2 ht0) c_6 dX5_addPerson_39 (z_nameH eh_7 (z_aload_n (pc := 40) hK 0 dX5_addPerson_40 rfl (z_getR (pc := 41) hK f_X5_22_4 ht0 dX5_addPerson_41 (z_aload_n (pc := 44) hK 0 dX5_addPerson_44 rfl (z_getI (pc := 45) hK f_X5_51_4 ht0 dX5_addPerson_45 (z_iload (pc := 48) hK 4 dX5_addPerson_48 rfl (z_iast (pc := 50) hK (zt_4_3 ht0) c_8 dX5_addPerson_50 (z_nameH eh_9 (z_aload_n (pc := 51) hK 0 dX5_addPerson_51 rfl (z_dup (pc := 52) hK dX5_addPerson_52 rfl (z_getI (pc := 53) hK f_X5_51_4 ht0 dX5_addPerson_53 (z_iconst (pc := 56) hK dX5_addPerson_56 zc_i1 (z_iadd (pc := 57) hK dX5_addPerson_57 (z_putI (pc := 58) hK f_X5_51_4 fp_4_7 ht0 dX5_addPerson_58 (z_nameH eh_10 (z_vretE (pc := 61) hK hE hg dX5_addPerson_61)))))))))))))))))))))))))))))))))))
theorem m_X5_addPerson {l : Launch} {G : zG} (hG : zD G) {h : zH} {t0 : Nat} {x1 : Int64} {x3 : Int32} {x4 : Int32} {x5 : Int32} (ht0 : zT t0 = (4, 0)) {r : zH} (hg : g_X5_addPerson h t0 x1 x3 x4 x5 = some r) : zM l G yX5_addPerson cX5_addPerson 6 none 0 0 [.ref (G.2.2.2 t0), .long x1, .int x3, .int x4, .int x5] h (none) r :=
  zM_of hG pn_X5 (Nat.le_of_ble_eq_true rfl) (fun K _ hK hE => b_X5_addPerson hK ht0 hE hg)
theorem dX5_has_0 : decode cX5_has 0 = .ok (.iload_n 1, 1) := by decide +kernel
theorem dX5_has_1 : decode cX5_has 1 = .ok (.ifCond .lt 15, 3) := by decide +kernel
theorem dX5_has_4 : decode cX5_has 4 = .ok (.iload_n 1, 1) := by decide +kernel
theorem dX5_has_5 : decode cX5_has 5 = .ok (.aload_n 0, 1) := by decide +kernel
theorem dX5_has_6 : decode cX5_has 6 = .ok (.getfield 51, 3) := by decide +kernel
theorem dX5_has_9 : decode cX5_has 9 = .ok (.if_icmp .ge 7, 3) := by decide +kernel
theorem dX5_has_12 : decode cX5_has 12 = .ok (.iconst 1, 1) := by decide +kernel
theorem dX5_has_13 : decode cX5_has 13 = .ok (.goto 4, 3) := by decide +kernel
theorem dX5_has_16 : decode cX5_has 16 = .ok (.iconst 0, 1) := by decide +kernel
theorem dX5_has_17 : decode cX5_has 17 = .ok (.ireturn, 1) := by decide +kernel
def g_X5_has (h : zH) (t0 : Nat) (x1 : Int32) : Option Bool := if x1 < 0 then (some false) else (if (h.1 t0 7) ≤ x1 then (some false) else (some true))
set_option maxRecDepth 100000 in
set_option maxHeartbeats 4000000 in
theorem b_X5_has {K : zK} {G : zG} (hK : zC K G cX5_has RX5 2 0 0 (some .boolean)) {h : zH} {t0 : Nat} {x1 : Int32} (ht0 : zT t0 = (4, 0)) {r : Bool} (hE : zE K G (some (.int (zb r))) h) (hg : g_X5_has h t0 x1 = some r) : zW K G 2 0 [(0, .ref (G.2.2.2 t0)), (1, .int x1)] [] h := by
  rw [g_X5_has] at hg
  refine z_iload_n (pc := 0) hK 1 dX5_has_0 rfl (z_if_lt (pc := 1) hK 16 dX5_has_1 (by decide) (fun c_1 => ?_) (fun c_1 => ?_))
  · rw [if_pos c_1] at hg
    exact z_iconst (pc := 16) hK dX5_has_16 zc_i0 (z_zretP (pc := 17) hK rfl hE hg dX5_has_17)
  · rw [if_neg c_1] at hg
    refine z_iload_n (pc := 4) hK 1 dX5_has_4 rfl (z_aload_n (pc := 5) hK 0 dX5_has_5 rfl (z_getI (pc := 6) hK f_X5_51_4 ht0 dX5_has_6 (z_icmp_ge (pc := 9) hK 16 dX5_has_9 (by decide) (fun c_2 => ?_) (fun c_2 => ?_))))
    · rw [if_pos c_2] at hg
      exact z_iconst (pc := 16) hK dX5_has_16 zc_i0 (z_zretP (pc := 17) hK rfl hE hg dX5_has_17)
    · rw [if_neg c_2] at hg
      exact z_iconst (pc := 12) hK dX5_has_12 zc_i1 (z_goto (pc := 13) hK 17 dX5_has_13 (by decide) (z_zretP (pc := 17) hK rfl hE hg dX5_has_17))
theorem m_X5_has {l : Launch} {G : zG} (hG : zD G) {h : zH} {t0 : Nat} {x1 : Int32} (ht0 : zT t0 = (4, 0)) {r : Bool} (hg : g_X5_has h t0 x1 = some r) : zM l G yX5_has cX5_has 2 (some .boolean) 0 0 [.ref (G.2.2.2 t0), .int x1] h (some (.int (zb r))) h :=
  zM_of hG pn_X5 (Nat.le_of_ble_eq_true rfl) (fun K _ hK hE => b_X5_has hK ht0 hE hg)
theorem dX5_hasPair_0 : decode cX5_hasPair 0 = .ok (.aload_n 0, 1) := by decide +kernel
theorem dX5_hasPair_1 : decode cX5_hasPair 1 = .ok (.iload_n 1, 1) := by decide +kernel
theorem dX5_hasPair_2 : decode cX5_hasPair 2 = .ok (.invokevirtual 71, 3) := by decide +kernel
theorem dX5_hasPair_5 : decode cX5_hasPair 5 = .ok (.ifCond .eq 20, 3) := by decide +kernel
theorem dX5_hasPair_8 : decode cX5_hasPair 8 = .ok (.aload_n 0, 1) := by decide +kernel
theorem dX5_hasPair_9 : decode cX5_hasPair 9 = .ok (.iload_n 2, 1) := by decide +kernel
theorem dX5_hasPair_10 : decode cX5_hasPair 10 = .ok (.invokevirtual 71, 3) := by decide +kernel
theorem dX5_hasPair_13 : decode cX5_hasPair 13 = .ok (.ifCond .eq 12, 3) := by decide +kernel
theorem dX5_hasPair_16 : decode cX5_hasPair 16 = .ok (.iload_n 1, 1) := by decide +kernel
theorem dX5_hasPair_17 : decode cX5_hasPair 17 = .ok (.iload_n 2, 1) := by decide +kernel
theorem dX5_hasPair_18 : decode cX5_hasPair 18 = .ok (.if_icmp .eq 7, 3) := by decide +kernel
theorem dX5_hasPair_21 : decode cX5_hasPair 21 = .ok (.iconst 1, 1) := by decide +kernel
theorem dX5_hasPair_22 : decode cX5_hasPair 22 = .ok (.goto 4, 3) := by decide +kernel
theorem dX5_hasPair_25 : decode cX5_hasPair 25 = .ok (.iconst 0, 1) := by decide +kernel
theorem dX5_hasPair_26 : decode cX5_hasPair 26 = .ok (.ireturn, 1) := by decide +kernel
def g_X5_hasPair (h : zH) (t0 : Nat) (x1 : Int32) (x2 : Int32) : Option Bool := (g_X5_has h t0 x1).bind fun v_1 => if (zb v_1) = 0 then (some false) else ((g_X5_has h t0 x2).bind fun v_3 => if (zb v_3) = 0 then (some false) else (if x1 = x2 then (some false) else (some true)))
set_option maxRecDepth 100000 in
set_option maxHeartbeats 4000000 in
theorem b_X5_hasPair {K : zK} {G : zG} (hK : zC K G cX5_hasPair RX5 3 1 21 (some .boolean)) {h : zH} {t0 : Nat} {x1 : Int32} {x2 : Int32} (ht0 : zT t0 = (4, 0)) {r : Bool} (hE : zE K G (some (.int (zb r))) h) (hg : g_X5_hasPair h t0 x1 x2 = some r) : zW K G 3 0 [(0, .ref (G.2.2.2 t0)), (1, .int x1), (2, .int x2)] [] h := by
  rw [g_X5_hasPair] at hg
  obtain ⟨v_1, qv_1, hg⟩ := zbind_some hg
  refine z_aload_n (pc := 0) hK 0 dX5_hasPair_0 rfl (z_iload_n (pc := 1) hK 1 dX5_hasPair_1 rfl (z_callVi (pc := 2) hK [.int x1] (m_X5_has (zC_D hK) ht0 qv_1) sv_X5_has q_900 ht0 rfl [] rfl (Nat.le_of_ble_eq_true rfl) ⟨by decide, by decide⟩ dX5_hasPair_2 (z_if_eq (pc := 5) hK 25 dX5_hasPair_5 (by decide) (fun c_2 => ?_) (fun c_2 => ?_))))
  · rw [if_pos c_2] at hg
    exact z_iconst (pc := 25) hK dX5_hasPair_25 zc_i0 (z_zretP (pc := 26) hK rfl hE hg dX5_hasPair_26)
  · rw [if_neg c_2] at hg
    obtain ⟨v_3, qv_3, hg⟩ := zbind_some hg
    refine z_aload_n (pc := 8) hK 0 dX5_hasPair_8 rfl (z_iload_n (pc := 9) hK 2 dX5_hasPair_9 rfl (z_callVi (pc := 10) hK [.int x2] (m_X5_has (zC_D hK) ht0 qv_3) sv_X5_has q_900 ht0 rfl [] rfl (Nat.le_of_ble_eq_true rfl) ⟨by decide, by decide⟩ dX5_hasPair_10 (z_if_eq (pc := 13) hK 25 dX5_hasPair_13 (by decide) (fun c_4 => ?_) (fun c_4 => ?_))))
    · rw [if_pos c_4] at hg
      exact z_iconst (pc := 25) hK dX5_hasPair_25 zc_i0 (z_zretP (pc := 26) hK rfl hE hg dX5_hasPair_26)
    · rw [if_neg c_4] at hg
      refine z_iload_n (pc := 16) hK 1 dX5_hasPair_16 rfl (z_iload_n (pc := 17) hK 2 dX5_hasPair_17 rfl (z_icmp_eq (pc := 18) hK 25 dX5_hasPair_18 (by decide) (fun c_5 => ?_) (fun c_5 => ?_)))
      · rw [if_pos c_5] at hg
        exact z_iconst (pc := 25) hK dX5_hasPair_25 zc_i0 (z_zretP (pc := 26) hK rfl hE hg dX5_hasPair_26)
      · rw [if_neg c_5] at hg
        exact z_iconst (pc := 21) hK dX5_hasPair_21 zc_i1 (z_goto (pc := 22) hK 26 dX5_hasPair_22 (by decide) (z_zretP (pc := 26) hK rfl hE hg dX5_hasPair_26))
theorem m_X5_hasPair {l : Launch} {G : zG} (hG : zD G) {h : zH} {t0 : Nat} {x1 : Int32} {x2 : Int32} (ht0 : zT t0 = (4, 0)) {r : Bool} (hg : g_X5_hasPair h t0 x1 x2 = some r) : zM l G yX5_hasPair cX5_hasPair 3 (some .boolean) 1 21 [.ref (G.2.2.2 t0), .int x1, .int x2] h (some (.int (zb r))) h :=
  zM_of hG pn_X5 (Nat.le_of_ble_eq_true rfl) (fun K _ hK hE => b_X5_hasPair hK ht0 hE hg)
theorem dX5_numberOf_0 : decode cX5_numberOf 0 = .ok (.iconst 0, 1) := by decide +kernel
theorem dX5_numberOf_1 : decode cX5_numberOf 1 = .ok (.istore_n 3, 1) := by decide +kernel
theorem dX5_numberOf_2 : decode cX5_numberOf 2 = .ok (.iload_n 3, 1) := by decide +kernel
theorem dX5_numberOf_3 : decode cX5_numberOf 3 = .ok (.aload_n 0, 1) := by decide +kernel
theorem dX5_numberOf_4 : decode cX5_numberOf 4 = .ok (.getfield 51, 3) := by decide +kernel
theorem dX5_numberOf_7 : decode cX5_numberOf 7 = .ok (.if_icmp .ge 22, 3) := by decide +kernel
theorem dX5_numberOf_10 : decode cX5_numberOf 10 = .ok (.aload_n 0, 1) := by decide +kernel
theorem dX5_numberOf_11 : decode cX5_numberOf 11 = .ok (.getfield 9, 3) := by decide +kernel
theorem dX5_numberOf_14 : decode cX5_numberOf 14 = .ok (.iload_n 3, 1) := by decide +kernel
theorem dX5_numberOf_15 : decode cX5_numberOf 15 = .ok (.laload, 1) := by decide +kernel
theorem dX5_numberOf_16 : decode cX5_numberOf 16 = .ok (.lload_n 1, 1) := by decide +kernel
theorem dX5_numberOf_17 : decode cX5_numberOf 17 = .ok (.lcmp, 1) := by decide +kernel
theorem dX5_numberOf_18 : decode cX5_numberOf 18 = .ok (.ifCond .ne 5, 3) := by decide +kernel
theorem dX5_numberOf_21 : decode cX5_numberOf 21 = .ok (.iload_n 3, 1) := by decide +kernel
theorem dX5_numberOf_22 : decode cX5_numberOf 22 = .ok (.ireturn, 1) := by decide +kernel
theorem dX5_numberOf_23 : decode cX5_numberOf 23 = .ok (.iinc 3 1, 3) := by decide +kernel
theorem dX5_numberOf_26 : decode cX5_numberOf 26 = .ok (.goto (-24), 3) := by decide +kernel
theorem dX5_numberOf_29 : decode cX5_numberOf 29 = .ok (.iconst (-1), 1) := by decide +kernel
theorem dX5_numberOf_30 : decode cX5_numberOf 30 = .ok (.ireturn, 1) := by decide +kernel
def g_X5_numberOf_2 (h : zH) (t0 : Nat)  : Nat → Int64 → Int32 → Option Int32
  | 0, _, _ => none
  | n + 1, x1, x3 => if (h.1 t0 7) ≤ x3 then (some (-1)) else (zgu (zin x3 7) <| if (lg_cmp (h.2 (zR t0 0) (zx x3)) x1) = 0 then (some x3) else (g_X5_numberOf_2 h t0 n x1 (x3 + 1)))
def g_X5_numberOf (h : zH) (t0 : Nat) (x1 : Int64) : Option Int32 := g_X5_numberOf_2 h t0 zfu x1 0
set_option maxRecDepth 100000 in
set_option maxHeartbeats 4000000 in
theorem b_X5_numberOf_2 {K : zK} {G : zG} (hK : zC K G cX5_numberOf RX5 4 0 0 (some .int)) {h : zH} {t0 : Nat} (ht0 : zT t0 = (4, 0)) {r : Int32} (hE : zE K G (some (.int r)) h) : ∀ (n : Nat) (x1 : Int64) (x3 : Int32), g_X5_numberOf_2 h t0 n x1 x3 = some r → zW K G 4 2 [(0, .ref (G.2.2.2 t0)), (1, .long x1), (3, .int x3)] [] h := by
  intro n
  induction n with
  | zero => intro x1 x3 hg; exact nomatch (show none = some r from hg)
  | succ n ih =>
    intro x1 x3 hg
    rw [g_X5_numberOf_2] at hg
    refine z_iload_n (pc := 2) hK 2 dX5_numberOf_2 rfl (z_aload_n (pc := 3) hK 0 dX5_numberOf_3 rfl (z_getI (pc := 4) hK f_X5_51_4 ht0 dX5_numberOf_4 (z_icmp_ge (pc := 7) hK 29 dX5_numberOf_7 (by decide) (fun c_1 => ?_) (fun c_1 => ?_))))
    · rw [if_pos c_1] at hg
      exact z_iconst (pc := 29) hK dX5_numberOf_29 zc_im1 (z_iretP (pc := 30) hK hE hg dX5_numberOf_30)
    · rw [if_neg c_1] at hg
      obtain ⟨c_2, hg⟩ := zgu_some hg
      refine z_aload_n (pc := 10) hK 0 dX5_numberOf_10 rfl (z_getR (pc := 11) hK f_X5_9_4 ht0 dX5_numberOf_11 (z_iload_n (pc := 14) hK 2 dX5_numberOf_14 rfl (z_lald (pc := 15) hK (zt_4_0 ht0) c_2 dX5_numberOf_15 (z_lload_n (pc := 16) hK 1 dX5_numberOf_16 rfl (z_lcmp (pc := 17) hK dX5_numberOf_17 (z_if_ne (pc := 18) hK 23 dX5_numberOf_18 (by decide) (fun c_3 => ?_) (fun c_3 => ?_)))))))
      · rw [if_neg c_3] at hg
        exact z_iinc (pc := 23) hK 2 (lv' := [(3, .int (x3 + 1)), (0, .ref (G.2.2.2 t0)), (1, .long x1)]) dX5_numberOf_23 rfl (zc_n1 _) (by decide) rfl (z_goto (pc := 26) hK 2 dX5_numberOf_26 (by decide) (zsub (lv' := [(0, .ref (G.2.2.2 t0)), (1, .long x1), (3, .int (x3 + 1))]) [1, 2, 0] rfl (ih x1 (x3 + 1) hg)))
      · rw [if_pos c_3] at hg
        exact z_iload_n (pc := 21) hK 2 dX5_numberOf_21 rfl (z_iretP (pc := 22) hK hE hg dX5_numberOf_22)
set_option maxRecDepth 100000 in
set_option maxHeartbeats 4000000 in
theorem b_X5_numberOf {K : zK} {G : zG} (hK : zC K G cX5_numberOf RX5 4 0 0 (some .int)) {h : zH} {t0 : Nat} {x1 : Int64} (ht0 : zT t0 = (4, 0)) {r : Int32} (hE : zE K G (some (.int r)) h) (hg : g_X5_numberOf h t0 x1 = some r) : zW K G 4 0 [(0, .ref (G.2.2.2 t0)), (1, .long x1)] [] h := by
  rw [g_X5_numberOf] at hg
  exact z_iconst (pc := 0) hK dX5_numberOf_0 zc_i0 (z_istore_n (pc := 1) hK (lv' := [(3, .int 0), (0, .ref (G.2.2.2 t0)), (1, .long x1)]) dX5_numberOf_1 (by decide) rfl (zsub (lv' := [(0, .ref (G.2.2.2 t0)), (1, .long x1), (3, .int 0)]) [1, 2, 0] rfl (b_X5_numberOf_2 hK ht0 hE zfu x1 0 hg)))
theorem m_X5_numberOf {l : Launch} {G : zG} (hG : zD G) {h : zH} {t0 : Nat} {x1 : Int64} (ht0 : zT t0 = (4, 0)) {r : Int32} (hg : g_X5_numberOf h t0 x1 = some r) : zM l G yX5_numberOf cX5_numberOf 4 (some .int) 0 0 [.ref (G.2.2.2 t0), .long x1] h (some (.int r)) h :=
  zM_of hG pn_X5 (Nat.le_of_ble_eq_true rfl) (fun K _ hK hE => b_X5_numberOf hK ht0 hE hg)
theorem dX5_barOf_0 : decode cX5_barOf 0 = .ok (.aload_n 0, 1) := by decide +kernel
theorem dX5_barOf_1 : decode cX5_barOf 1 = .ok (.getfield 15, 3) := by decide +kernel
theorem dX5_barOf_4 : decode cX5_barOf 4 = .ok (.iload_n 1, 1) := by decide +kernel
theorem dX5_barOf_5 : decode cX5_barOf 5 = .ok (.iaload, 1) := by decide +kernel
theorem dX5_barOf_6 : decode cX5_barOf 6 = .ok (.iconst 2, 1) := by decide +kernel
theorem dX5_barOf_7 : decode cX5_barOf 7 = .ok (.if_icmp .ne 13, 3) := by decide +kernel
theorem dX5_barOf_10 : decode cX5_barOf 10 = .ok (.iconst 1, 1) := by decide +kernel
theorem dX5_barOf_11 : decode cX5_barOf 11 = .ok (.iload_n 2, 1) := by decide +kernel
theorem dX5_barOf_12 : decode cX5_barOf 12 = .ok (.iconst 2, 1) := by decide +kernel
theorem dX5_barOf_13 : decode cX5_barOf 13 = .ok (.isub, 1) := by decide +kernel
theorem dX5_barOf_14 : decode cX5_barOf 14 = .ok (.invokestatic 75, 3) := by decide +kernel
theorem dX5_barOf_17 : decode cX5_barOf 17 = .ok (.goto 4, 3) := by decide +kernel
theorem dX5_barOf_20 : decode cX5_barOf 20 = .ok (.iload_n 2, 1) := by decide +kernel
theorem dX5_barOf_21 : decode cX5_barOf 21 = .ok (.ireturn, 1) := by decide +kernel
def g_X5_barOf (h : zH) (t0 : Nat) (x1 : Int32) (x2 : Int32) : Option Int32 := zgu (zin x1 7) <| if (h.1 (zR t0 1) (zx x1)) = 2 then (some (if 1 < (x2 - 2) then (x2 - 2) else 1)) else (some x2)
set_option maxRecDepth 100000 in
set_option maxHeartbeats 4000000 in
theorem b_X5_barOf {K : zK} {G : zG} (hK : zC K G cX5_barOf RX5 3 1 13 (some .int)) {h : zH} {t0 : Nat} {x1 : Int32} {x2 : Int32} (ht0 : zT t0 = (4, 0)) {r : Int32} (hE : zE K G (some (.int r)) h) (hg : g_X5_barOf h t0 x1 x2 = some r) : zW K G 3 0 [(0, .ref (G.2.2.2 t0)), (1, .int x1), (2, .int x2)] [] h := by
  rw [g_X5_barOf] at hg
  obtain ⟨c_1, hg⟩ := zgu_some hg
  refine z_aload_n (pc := 0) hK 0 dX5_barOf_0 rfl (z_getR (pc := 1) hK f_X5_15_4 ht0 dX5_barOf_1 (z_iload_n (pc := 4) hK 1 dX5_barOf_4 rfl (z_iald (pc := 5) hK (zt_4_1 ht0) c_1 dX5_barOf_5 (z_iconst (pc := 6) hK dX5_barOf_6 zc_i2 (z_icmp_ne (pc := 7) hK 20 dX5_barOf_7 (by decide) (fun c_2 => ?_) (fun c_2 => ?_))))))
  · rw [if_neg c_2] at hg
    exact z_iload_n (pc := 20) hK 2 dX5_barOf_20 rfl (z_iretP (pc := 21) hK hE hg dX5_barOf_21)
  · rw [if_pos c_2] at hg
    exact z_iconst (pc := 10) hK dX5_barOf_10 zc_i1 (z_iload_n (pc := 11) hK 2 dX5_barOf_11 rfl (z_iconst (pc := 12) hK dX5_barOf_12 zc_i2 (z_isub (pc := 13) hK dX5_barOf_13 (z_mmax (pc := 14) hK q_1040 zw_max ⟨by decide, Nat.le_of_ble_eq_true rfl⟩ dX5_barOf_14 (z_goto (pc := 17) hK 21 dX5_barOf_17 (by decide) (z_iretP (pc := 21) hK hE hg dX5_barOf_21))))))
theorem m_X5_barOf {l : Launch} {G : zG} (hG : zD G) {h : zH} {t0 : Nat} {x1 : Int32} {x2 : Int32} (ht0 : zT t0 = (4, 0)) {r : Int32} (hg : g_X5_barOf h t0 x1 x2 = some r) : zM l G yX5_barOf cX5_barOf 3 (some .int) 1 13 [.ref (G.2.2.2 t0), .int x1, .int x2] h (some (.int r)) h :=
  zM_of hG pn_X5 (Nat.le_of_ble_eq_true rfl) (fun K _ hK hE => b_X5_barOf hK ht0 hE hg)
theorem dX6_begin_0 : decode cX6_begin 0 = .ok (.aload_n 0, 1) := by decide +kernel
theorem dX6_begin_1 : decode cX6_begin 1 = .ok (.getfield 26, 3) := by decide +kernel
theorem dX6_begin_4 : decode cX6_begin 4 = .ok (.invokevirtual 30, 3) := by decide +kernel
theorem dX6_begin_7 : decode cX6_begin 7 = .ok (.aload_n 0, 1) := by decide +kernel
theorem dX6_begin_8 : decode cX6_begin 8 = .ok (.iconst 0, 1) := by decide +kernel
theorem dX6_begin_9 : decode cX6_begin 9 = .ok (.putfield 34, 3) := by decide +kernel
theorem dX6_begin_12 : decode cX6_begin 12 = .ok (.return_, 1) := by decide +kernel
def g_X6_begin (h : zH) (t0 : Nat) : Option zH := (g_X5_clear h (zR t0 1)).bind fun v_1 => zlet (zpi v_1 t0 5 0) fun h_2 => some h_2
set_option maxRecDepth 100000 in
set_option maxHeartbeats 4000000 in
theorem b_X6_begin {K : zK} {G : zG} (hK : zC K G cX6_begin RX6 1 2 43 none) {h : zH} {t0 : Nat} (ht0 : zT t0 = (5, 0)) {r : zH} (hE : zE K G (none) r) (hg : g_X6_begin h t0 = some r) : zW K G 1 0 [(0, .ref (G.2.2.2 t0))] [] h := by
  rw [g_X6_begin] at hg
  obtain ⟨v_1, qv_1, hg⟩ := zbind_some hg
  obtain ⟨h_2, eh_2, hg⟩ := zlet_some hg
  exact z_aload_n (pc := 0) hK 0 dX6_begin_0 rfl (z_getR (pc := 1) hK f_X6_26_5 ht0 dX6_begin_1 (z_callVv (pc := 4) hK [] (m_X5_clear (zC_D hK) (zt_5_1 ht0) qv_1) sv_X5_clear q_518 (zt_5_1 ht0) rfl [] rfl (Nat.le_of_ble_eq_true rfl) ⟨by decide, by decide⟩ dX6_begin_4 (z_aload_n (pc := 7) hK 0 dX6_begin_7 rfl (z_iconst (pc := 8) hK dX6_begin_8 zc_i0 (z_putI (pc := 9) hK f_X6_34_5 fp_5_5 ht0 dX6_begin_9 (z_nameH eh_2 (z_vretE (pc := 12) hK hE hg dX6_begin_12)))))))
theorem m_X6_begin {l : Launch} {G : zG} (hG : zD G) {h : zH} {t0 : Nat} (ht0 : zT t0 = (5, 0)) {r : zH} (hg : g_X6_begin h t0 = some r) : zM l G yX6_begin cX6_begin 1 none 2 43 [.ref (G.2.2.2 t0)] h (none) r :=
  zM_of hG pn_X6 (Nat.le_of_ble_eq_true rfl) (fun K _ hK hE => b_X6_begin hK ht0 hE hg)
theorem dX4_fail_0 : decode cX4_fail 0 = .ok (.aload_n 0, 1) := by decide +kernel
theorem dX4_fail_1 : decode cX4_fail 1 = .ok (.iload_n 1, 1) := by decide +kernel
theorem dX4_fail_2 : decode cX4_fail 2 = .ok (.bipush 16, 2) := by decide +kernel
theorem dX4_fail_4 : decode cX4_fail 4 = .ok (.aload_n 0, 1) := by decide +kernel
theorem dX4_fail_5 : decode cX4_fail 5 = .ok (.getfield 9, 3) := by decide +kernel
theorem dX4_fail_8 : decode cX4_fail 8 = .ok (.getfield 45, 3) := by decide +kernel
theorem dX4_fail_11 : decode cX4_fail 11 = .ok (.imul, 1) := by decide +kernel
theorem dX4_fail_12 : decode cX4_fail 12 = .ok (.iadd, 1) := by decide +kernel
theorem dX4_fail_13 : decode cX4_fail 13 = .ok (.putfield 22, 3) := by decide +kernel
theorem dX4_fail_16 : decode cX4_fail 16 = .ok (.iconst 0, 1) := by decide +kernel
theorem dX4_fail_17 : decode cX4_fail 17 = .ok (.ireturn, 1) := by decide +kernel
def g_X4_fail_c5 (h : zH) (t0 : Nat) (x1 : Int32) : Option (Bool × zH) := zlet (zpi h t0 3 (x1 + (16 * (h.1 (zR t0 0) 3)))) fun h_1 => some (false, h_1)
set_option maxRecDepth 100000 in
set_option maxHeartbeats 4000000 in
theorem b_X4_fail_c5 {K : zK} {G : zG} (hK : zC K G cX4_fail RX4 2 0 0 (some .boolean)) {h : zH} {t0 : Nat} {x1 : Int32} (ht0 : zT t0 = (5, 0)) {r : Bool × zH} (hE : zE K G (some (.int (zb r.1))) r.2) (hg : g_X4_fail_c5 h t0 x1 = some r) : zW K G 2 0 [(0, .ref (G.2.2.2 t0)), (1, .int x1)] [] h := by
  rw [g_X4_fail_c5] at hg
  obtain ⟨h_1, eh_1, hg⟩ := zlet_some hg
  exact z_aload_n (pc := 0) hK 0 dX4_fail_0 rfl (z_iload_n (pc := 1) hK 1 dX4_fail_1 rfl (z_bipush (pc := 2) hK dX4_fail_2 zc_b16 (z_aload_n (pc := 4) hK 0 dX4_fail_4 rfl (z_getR (pc := 5) hK f_X4_9_5 ht0 dX4_fail_5 (z_getI (pc := 8) hK f_X4_45_7 (zt_5_0 ht0) dX4_fail_8 (z_imul (pc := 11) hK dX4_fail_11 (z_iadd (pc := 12) hK dX4_fail_12 (z_putI (pc := 13) hK f_X4_22_5 fp_5_3 ht0 dX4_fail_13 (z_nameH eh_1 (z_iconst (pc := 16) hK dX4_fail_16 zc_i0 (z_zretE (pc := 17) hK rfl hE hg dX4_fail_17)))))))))))
theorem m_X4_fail_c5 {l : Launch} {G : zG} (hG : zD G) {h : zH} {t0 : Nat} {x1 : Int32} (ht0 : zT t0 = (5, 0)) {r : Bool × zH} (hg : g_X4_fail_c5 h t0 x1 = some r) : zM l G yX4_fail cX4_fail 2 (some .boolean) 0 0 [.ref (G.2.2.2 t0), .int x1] h (some (.int (zb r.1))) r.2 :=
  zM_of hG pn_X4 (Nat.le_of_ble_eq_true rfl) (fun K _ hK hE => b_X4_fail_c5 hK ht0 hE hg)
theorem dX6_takeOnce_0 : decode cX6_takeOnce 0 = .ok (.iconst 1, 1) := by decide +kernel
theorem dX6_takeOnce_1 : decode cX6_takeOnce 1 = .ok (.aload_n 0, 1) := by decide +kernel
theorem dX6_takeOnce_2 : decode cX6_takeOnce 2 = .ok (.getfield 38, 3) := by decide +kernel
theorem dX6_takeOnce_5 : decode cX6_takeOnce 5 = .ok (.getfield 42, 3) := by decide +kernel
theorem dX6_takeOnce_8 : decode cX6_takeOnce 8 = .ok (.bipush 17, 2) := by decide +kernel
theorem dX6_takeOnce_10 : decode cX6_takeOnce 10 = .ok (.isub, 1) := by decide +kernel
theorem dX6_takeOnce_11 : decode cX6_takeOnce 11 = .ok (.ishl, 1) := by decide +kernel
theorem dX6_takeOnce_12 : decode cX6_takeOnce 12 = .ok (.istore_n 1, 1) := by decide +kernel
theorem dX6_takeOnce_13 : decode cX6_takeOnce 13 = .ok (.aload_n 0, 1) := by decide +kernel
theorem dX6_takeOnce_14 : decode cX6_takeOnce 14 = .ok (.getfield 34, 3) := by decide +kernel
theorem dX6_takeOnce_17 : decode cX6_takeOnce 17 = .ok (.iload_n 1, 1) := by decide +kernel
theorem dX6_takeOnce_18 : decode cX6_takeOnce 18 = .ok (.iand, 1) := by decide +kernel
theorem dX6_takeOnce_19 : decode cX6_takeOnce 19 = .ok (.ifCond .eq 9, 3) := by decide +kernel
theorem dX6_takeOnce_22 : decode cX6_takeOnce 22 = .ok (.aload_n 0, 1) := by decide +kernel
theorem dX6_takeOnce_23 : decode cX6_takeOnce 23 = .ok (.iconst 3, 1) := by decide +kernel
theorem dX6_takeOnce_24 : decode cX6_takeOnce 24 = .ok (.invokevirtual 72, 3) := by decide +kernel
theorem dX6_takeOnce_27 : decode cX6_takeOnce 27 = .ok (.ireturn, 1) := by decide +kernel
theorem dX6_takeOnce_28 : decode cX6_takeOnce 28 = .ok (.aload_n 0, 1) := by decide +kernel
theorem dX6_takeOnce_29 : decode cX6_takeOnce 29 = .ok (.dup, 1) := by decide +kernel
theorem dX6_takeOnce_30 : decode cX6_takeOnce 30 = .ok (.getfield 34, 3) := by decide +kernel
theorem dX6_takeOnce_33 : decode cX6_takeOnce 33 = .ok (.iload_n 1, 1) := by decide +kernel
theorem dX6_takeOnce_34 : decode cX6_takeOnce 34 = .ok (.ior, 1) := by decide +kernel
theorem dX6_takeOnce_35 : decode cX6_takeOnce 35 = .ok (.putfield 34, 3) := by decide +kernel
theorem dX6_takeOnce_38 : decode cX6_takeOnce 38 = .ok (.aload_n 0, 1) := by decide +kernel
theorem dX6_takeOnce_39 : decode cX6_takeOnce 39 = .ok (.getfield 38, 3) := by decide +kernel
theorem dX6_takeOnce_42 : decode cX6_takeOnce 42 = .ok (.invokevirtual 79, 3) := by decide +kernel
theorem dX6_takeOnce_45 : decode cX6_takeOnce 45 = .ok (.iconst 1, 1) := by decide +kernel
theorem dX6_takeOnce_46 : decode cX6_takeOnce 46 = .ok (.ireturn, 1) := by decide +kernel
def g_X6_takeOnce (h : zH) (t0 : Nat) : Option (Bool × zH) := zlet ((1 : Int32) <<< (((h.1 (zR t0 0) 2) - 17) &&& 31)) fun v_1 => if ((h.1 t0 5) &&& v_1) = 0 then (zlet (zpi h t0 5 ((h.1 t0 5) ||| v_1)) fun h_3 => (g_X8_lookAtNext h_3 (zR t0 0)).bind fun v_4 => some (true, v_4)) else ((g_X4_fail_c5 h t0 3).bind fun v_5 => some (v_5.1, v_5.2))
set_option maxRecDepth 100000 in
set_option maxHeartbeats 4000000 in
theorem b_X6_takeOnce {K : zK} {G : zG} (hK : zC K G cX6_takeOnce RX6 2 6 130 (some .boolean)) {h : zH} {t0 : Nat} (ht0 : zT t0 = (5, 0)) {r : Bool × zH} (hE : zE K G (some (.int (zb r.1))) r.2) (hg : g_X6_takeOnce h t0 = some r) : zW K G 2 0 [(0, .ref (G.2.2.2 t0))] [] h := by
  rw [g_X6_takeOnce] at hg
  obtain ⟨v_1, ev_1, hg⟩ := zlet_some hg
  refine z_iconst (pc := 0) hK dX6_takeOnce_0 zc_i1 (z_aload_n (pc := 1) hK 0 dX6_takeOnce_1 rfl (z_getR (pc := 2) hK f_X6_38_5 ht0 dX6_takeOnce_2 (z_getI (pc := 5) hK f_X6_42_7 (zt_5_0 ht0) dX6_takeOnce_5 (z_bipush (pc := 8) hK dX6_takeOnce_8 zc_b17 (z_isub (pc := 10) hK dX6_takeOnce_10 (z_ishl (pc := 11) hK dX6_takeOnce_11 (z_nameI ev_1 (z_istore_n (pc := 12) hK (lv' := [(1, .int v_1), (0, .ref (G.2.2.2 t0))]) dX6_takeOnce_12 (by decide) rfl (z_aload_n (pc := 13) hK 1 dX6_takeOnce_13 rfl (z_getI (pc := 14) hK f_X6_34_5 ht0 dX6_takeOnce_14 (z_iload_n (pc := 17) hK 0 dX6_takeOnce_17 rfl (z_iand (pc := 18) hK dX6_takeOnce_18 (z_if_eq (pc := 19) hK 28 dX6_takeOnce_19 (by decide) (fun c_2 => ?_) (fun c_2 => ?_))))))))))))))
  · rw [if_pos c_2] at hg
    obtain ⟨h_3, eh_3, hg⟩ := zlet_some hg
    obtain ⟨v_4, qv_4, hg⟩ := zbind_some hg
    exact z_aload_n (pc := 28) hK 1 dX6_takeOnce_28 rfl (z_dup (pc := 29) hK dX6_takeOnce_29 rfl (z_getI (pc := 30) hK f_X6_34_5 ht0 dX6_takeOnce_30 (z_iload_n (pc := 33) hK 0 dX6_takeOnce_33 rfl (z_ior (pc := 34) hK dX6_takeOnce_34 (z_putI (pc := 35) hK f_X6_34_5 fp_5_5 ht0 dX6_takeOnce_35 (z_nameH eh_3 (z_aload_n (pc := 38) hK 1 dX6_takeOnce_38 rfl (z_getR (pc := 39) hK f_X6_38_5 ht0 dX6_takeOnce_39 (z_callVv (pc := 42) hK [] (m_X8_lookAtNext (zC_D hK) (zt_5_0 ht0) qv_4) sv_X8_lookAtNext q_686 (zt_5_0 ht0) rfl [] rfl (Nat.le_of_ble_eq_true rfl) ⟨by decide, by decide⟩ dX6_takeOnce_42 (z_iconst (pc := 45) hK dX6_takeOnce_45 zc_i1 (z_zretE (pc := 46) hK rfl hE hg dX6_takeOnce_46)))))))))))
  · rw [if_neg c_2] at hg
    obtain ⟨v_5, qv_5, hg⟩ := zbind_some hg
    exact z_aload_n (pc := 22) hK 1 dX6_takeOnce_22 rfl (z_iconst (pc := 23) hK dX6_takeOnce_23 zc_i3 (z_callUi (pc := 24) hK [.int 3] (m_X4_fail_c5 (zC_D hK) ht0 qv_5) su_X4_fail_c5_X6 q_680 ht0 rfl [] rfl (Nat.le_of_ble_eq_true rfl) ⟨by decide, by decide⟩ dX6_takeOnce_24 (z_zretE (pc := 27) hK rfl hE hg dX6_takeOnce_27)))
theorem m_X6_takeOnce {l : Launch} {G : zG} (hG : zD G) {h : zH} {t0 : Nat} (ht0 : zT t0 = (5, 0)) {r : Bool × zH} (hg : g_X6_takeOnce h t0 = some r) : zM l G yX6_takeOnce cX6_takeOnce 2 (some .boolean) 6 130 [.ref (G.2.2.2 t0)] h (some (.int (zb r.1))) r.2 :=
  zM_of hG pn_X6 (Nat.le_of_ble_eq_true rfl) (fun K _ hK hE => b_X6_takeOnce hK ht0 hE hg)
theorem dX6_readEases_0 : decode cX6_readEases 0 = .ok (.aload_n 0, 1) := by decide +kernel
theorem dX6_readEases_1 : decode cX6_readEases 1 = .ok (.invokevirtual 120, 3) := by decide +kernel
theorem dX6_readEases_4 : decode cX6_readEases 4 = .ok (.ifCond .ne 5, 3) := by decide +kernel
theorem dX6_readEases_7 : decode cX6_readEases 7 = .ok (.iconst 0, 1) := by decide +kernel
theorem dX6_readEases_8 : decode cX6_readEases 8 = .ok (.ireturn, 1) := by decide +kernel
theorem dX6_readEases_9 : decode cX6_readEases 9 = .ok (.aload_n 0, 1) := by decide +kernel
theorem dX6_readEases_10 : decode cX6_readEases 10 = .ok (.getfield 26, 3) := by decide +kernel
theorem dX6_readEases_13 : decode cX6_readEases 13 = .ok (.getfield 11, 3) := by decide +kernel
theorem dX6_readEases_16 : decode cX6_readEases 16 = .ok (.aload_n 0, 1) := by decide +kernel
theorem dX6_readEases_17 : decode cX6_readEases 17 = .ok (.getfield 26, 3) := by decide +kernel
theorem dX6_readEases_20 : decode cX6_readEases 20 = .ok (.getfield 11, 3) := by decide +kernel
theorem dX6_readEases_23 : decode cX6_readEases 23 = .ok (.getfield 136, 3) := by decide +kernel
theorem dX6_readEases_26 : decode cX6_readEases 26 = .ok (.putfield 151, 3) := by decide +kernel
theorem dX6_readEases_29 : decode cX6_readEases 29 = .ok (.aload_n 0, 1) := by decide +kernel
theorem dX6_readEases_30 : decode cX6_readEases 30 = .ok (.getfield 20, 3) := by decide +kernel
theorem dX6_readEases_33 : decode cX6_readEases 33 = .ok (.invokevirtual 144, 3) := by decide +kernel
theorem dX6_readEases_36 : decode cX6_readEases 36 = .ok (.istore_n 1, 1) := by decide +kernel
theorem dX6_readEases_37 : decode cX6_readEases 37 = .ok (.aload_n 0, 1) := by decide +kernel
theorem dX6_readEases_38 : decode cX6_readEases 38 = .ok (.getfield 26, 3) := by decide +kernel
theorem dX6_readEases_41 : decode cX6_readEases 41 = .ok (.getfield 11, 3) := by decide +kernel
theorem dX6_readEases_44 : decode cX6_readEases 44 = .ok (.aload_n 0, 1) := by decide +kernel
theorem dX6_readEases_45 : decode cX6_readEases 45 = .ok (.getfield 26, 3) := by decide +kernel
theorem dX6_readEases_48 : decode cX6_readEases 48 = .ok (.getfield 11, 3) := by decide +kernel
theorem dX6_readEases_51 : decode cX6_readEases 51 = .ok (.getfield 136, 3) := by decide +kernel
theorem dX6_readEases_54 : decode cX6_readEases 54 = .ok (.putfield 154, 3) := by decide +kernel
theorem dX6_readEases_57 : decode cX6_readEases 57 = .ok (.iload_n 1, 1) := by decide +kernel
theorem dX6_readEases_58 : decode cX6_readEases 58 = .ok (.ifCond .eq 11, 3) := by decide +kernel
theorem dX6_readEases_61 : decode cX6_readEases 61 = .ok (.aload_n 0, 1) := by decide +kernel
theorem dX6_readEases_62 : decode cX6_readEases 62 = .ok (.iload_n 1, 1) := by decide +kernel
theorem dX6_readEases_63 : decode cX6_readEases 63 = .ok (.invokevirtual 72, 3) := by decide +kernel
theorem dX6_readEases_66 : decode cX6_readEases 66 = .ok (.ifCond .eq 7, 3) := by decide +kernel
theorem dX6_readEases_69 : decode cX6_readEases 69 = .ok (.iconst 1, 1) := by decide +kernel
theorem dX6_readEases_70 : decode cX6_readEases 70 = .ok (.goto 4, 3) := by decide +kernel
theorem dX6_readEases_73 : decode cX6_readEases 73 = .ok (.iconst 0, 1) := by decide +kernel
theorem dX6_readEases_74 : decode cX6_readEases 74 = .ok (.ireturn, 1) := by decide +kernel
def g_X6_readEases (h : zH) (t0 : Nat) : Option (Bool × zH) := (g_X6_takeOnce h t0).bind fun v_1 => if (zb v_1.1) = 0 then (some (false, v_1.2)) else (zlet (zpi v_1.2 (zR (zR t0 1) 6) 10 (v_1.2.1 (zR (zR t0 1) 6) 7)) fun h_3 => (g_X0_readLaw h_3 (zR t0 4)).bind fun v_4 => zlet (zpi v_4.2 (zR (zR t0 1) 6) 11 (v_4.2.1 (zR (zR t0 1) 6) 7)) fun h_5 => if v_4.1 = 0 then (some (true, h_5)) else ((g_X4_fail_c5 h_5 t0 v_4.1).bind fun v_7 => if (zb v_7.1) = 0 then (some (false, v_7.2)) else (some (true, v_7.2))))
set_option maxRecDepth 100000 in
set_option maxHeartbeats 4000000 in
theorem b_X6_readEases {K : zK} {G : zG} (hK : zC K G cX6_readEases RX6 2 7 152 (some .boolean)) {h : zH} {t0 : Nat} (ht0 : zT t0 = (5, 0)) {r : Bool × zH} (hE : zE K G (some (.int (zb r.1))) r.2) (hg : g_X6_readEases h t0 = some r) : zW K G 2 0 [(0, .ref (G.2.2.2 t0))] [] h := by
  rw [g_X6_readEases] at hg
  obtain ⟨v_1, qv_1, hg⟩ := zbind_some hg
  refine z_aload_n (pc := 0) hK 0 dX6_readEases_0 rfl (z_callVi (pc := 1) hK [] (m_X6_takeOnce (zC_D hK) ht0 qv_1) sv_X6_takeOnce q_746 ht0 rfl [] rfl (Nat.le_of_ble_eq_true rfl) ⟨by decide, by decide⟩ dX6_readEases_1 (z_if_ne (pc := 4) hK 9 dX6_readEases_4 (by decide) (fun c_2 => ?_) (fun c_2 => ?_)))
  · rw [if_neg c_2] at hg
    obtain ⟨h_3, eh_3, hg⟩ := zlet_some hg
    obtain ⟨v_4, qv_4, hg⟩ := zbind_some hg
    obtain ⟨h_5, eh_5, hg⟩ := zlet_some hg
    refine z_aload_n (pc := 9) hK 0 dX6_readEases_9 rfl (z_getR (pc := 10) hK f_X6_26_5 ht0 dX6_readEases_10 (z_getR (pc := 13) hK f_X6_11_4 (zt_5_1 ht0) dX6_readEases_13 (z_aload_n (pc := 16) hK 0 dX6_readEases_16 rfl (z_getR (pc := 17) hK f_X6_26_5 ht0 dX6_readEases_17 (z_getR (pc := 20) hK f_X6_11_4 (zt_5_1 ht0) dX6_readEases_20 (z_getI (pc := 23) hK f_X6_136_1 (zt_4_6 (zt_5_1 ht0)) dX6_readEases_23 (z_putI (pc := 26) hK f_X6_151_1 fp_1_10 (zt_4_6 (zt_5_1 ht0)) dX6_readEases_26 (z_nameH eh_3 (z_aload_n (pc := 29) hK 0 dX6_readEases_29 rfl (z_getR (pc := 30) hK f_X6_20_5 ht0 dX6_readEases_30 (z_callVi (pc := 33) hK [] (m_X0_readLaw (zC_D hK) (zt_5_4 ht0) qv_4) sv_X0_readLaw q_768 (zt_5_4 ht0) rfl [] rfl (Nat.le_of_ble_eq_true rfl) ⟨by decide, by decide⟩ dX6_readEases_33 (z_istore_n (pc := 36) hK (lv' := [(1, .int v_4.1), (0, .ref (G.2.2.2 t0))]) dX6_readEases_36 (by decide) rfl (z_aload_n (pc := 37) hK 1 dX6_readEases_37 rfl (z_getR (pc := 38) hK f_X6_26_5 ht0 dX6_readEases_38 (z_getR (pc := 41) hK f_X6_11_4 (zt_5_1 ht0) dX6_readEases_41 (z_aload_n (pc := 44) hK 1 dX6_readEases_44 rfl (z_getR (pc := 45) hK f_X6_26_5 ht0 dX6_readEases_45 (z_getR (pc := 48) hK f_X6_11_4 (zt_5_1 ht0) dX6_readEases_48 (z_getI (pc := 51) hK f_X6_136_1 (zt_4_6 (zt_5_1 ht0)) dX6_readEases_51 (z_putI (pc := 54) hK f_X6_154_1 fp_1_11 (zt_4_6 (zt_5_1 ht0)) dX6_readEases_54 (z_nameH eh_5 (z_iload_n (pc := 57) hK 0 dX6_readEases_57 rfl (z_if_eq (pc := 58) hK 69 dX6_readEases_58 (by decide) (fun c_6 => ?_) (fun c_6 => ?_))))))))))))))))))))))))
    · rw [if_pos c_6] at hg
      exact z_iconst (pc := 69) hK dX6_readEases_69 zc_i1 (z_goto (pc := 70) hK 74 dX6_readEases_70 (by decide) (z_zretE (pc := 74) hK rfl hE hg dX6_readEases_74))
    · rw [if_neg c_6] at hg
      obtain ⟨v_7, qv_7, hg⟩ := zbind_some hg
      refine z_aload_n (pc := 61) hK 1 dX6_readEases_61 rfl (z_iload_n (pc := 62) hK 0 dX6_readEases_62 rfl (z_callUi (pc := 63) hK [.int v_4.1] (m_X4_fail_c5 (zC_D hK) ht0 qv_7) su_X4_fail_c5_X6 q_680 ht0 rfl [] rfl (Nat.le_of_ble_eq_true rfl) ⟨by decide, by decide⟩ dX6_readEases_63 (z_if_eq (pc := 66) hK 73 dX6_readEases_66 (by decide) (fun c_8 => ?_) (fun c_8 => ?_))))
      · rw [if_pos c_8] at hg
        exact z_iconst (pc := 73) hK dX6_readEases_73 zc_i0 (z_zretE (pc := 74) hK rfl hE hg dX6_readEases_74)
      · rw [if_neg c_8] at hg
        exact z_iconst (pc := 69) hK dX6_readEases_69 zc_i1 (z_goto (pc := 70) hK 74 dX6_readEases_70 (by decide) (z_zretE (pc := 74) hK rfl hE hg dX6_readEases_74))
  · rw [if_pos c_2] at hg
    exact z_iconst (pc := 7) hK dX6_readEases_7 zc_i0 (z_zretE (pc := 8) hK rfl hE hg dX6_readEases_8)
theorem m_X6_readEases {l : Launch} {G : zG} (hG : zD G) {h : zH} {t0 : Nat} (ht0 : zT t0 = (5, 0)) {r : Bool × zH} (hg : g_X6_readEases h t0 = some r) : zM l G yX6_readEases cX6_readEases 2 (some .boolean) 7 152 [.ref (G.2.2.2 t0)] h (some (.int (zb r.1))) r.2 :=
  zM_of hG pn_X6 (Nat.le_of_ble_eq_true rfl) (fun K _ hK hE => b_X6_readEases hK ht0 hE hg)
theorem dX6_readGrows_0 : decode cX6_readGrows 0 = .ok (.aload_n 0, 1) := by decide +kernel
theorem dX6_readGrows_1 : decode cX6_readGrows 1 = .ok (.invokevirtual 120, 3) := by decide +kernel
theorem dX6_readGrows_4 : decode cX6_readGrows 4 = .ok (.ifCond .ne 5, 3) := by decide +kernel
theorem dX6_readGrows_7 : decode cX6_readGrows 7 = .ok (.iconst 0, 1) := by decide +kernel
theorem dX6_readGrows_8 : decode cX6_readGrows 8 = .ok (.ireturn, 1) := by decide +kernel
theorem dX6_readGrows_9 : decode cX6_readGrows 9 = .ok (.aload_n 0, 1) := by decide +kernel
theorem dX6_readGrows_10 : decode cX6_readGrows 10 = .ok (.getfield 26, 3) := by decide +kernel
theorem dX6_readGrows_13 : decode cX6_readGrows 13 = .ok (.getfield 11, 3) := by decide +kernel
theorem dX6_readGrows_16 : decode cX6_readGrows 16 = .ok (.aload_n 0, 1) := by decide +kernel
theorem dX6_readGrows_17 : decode cX6_readGrows 17 = .ok (.getfield 26, 3) := by decide +kernel
theorem dX6_readGrows_20 : decode cX6_readGrows 20 = .ok (.getfield 11, 3) := by decide +kernel
theorem dX6_readGrows_23 : decode cX6_readGrows 23 = .ok (.getfield 136, 3) := by decide +kernel
theorem dX6_readGrows_26 : decode cX6_readGrows 26 = .ok (.putfield 141, 3) := by decide +kernel
theorem dX6_readGrows_29 : decode cX6_readGrows 29 = .ok (.aload_n 0, 1) := by decide +kernel
theorem dX6_readGrows_30 : decode cX6_readGrows 30 = .ok (.getfield 20, 3) := by decide +kernel
theorem dX6_readGrows_33 : decode cX6_readGrows 33 = .ok (.invokevirtual 144, 3) := by decide +kernel
theorem dX6_readGrows_36 : decode cX6_readGrows 36 = .ok (.istore_n 1, 1) := by decide +kernel
theorem dX6_readGrows_37 : decode cX6_readGrows 37 = .ok (.aload_n 0, 1) := by decide +kernel
theorem dX6_readGrows_38 : decode cX6_readGrows 38 = .ok (.getfield 26, 3) := by decide +kernel
theorem dX6_readGrows_41 : decode cX6_readGrows 41 = .ok (.getfield 11, 3) := by decide +kernel
theorem dX6_readGrows_44 : decode cX6_readGrows 44 = .ok (.aload_n 0, 1) := by decide +kernel
theorem dX6_readGrows_45 : decode cX6_readGrows 45 = .ok (.getfield 26, 3) := by decide +kernel
theorem dX6_readGrows_48 : decode cX6_readGrows 48 = .ok (.getfield 11, 3) := by decide +kernel
theorem dX6_readGrows_51 : decode cX6_readGrows 51 = .ok (.getfield 136, 3) := by decide +kernel
theorem dX6_readGrows_54 : decode cX6_readGrows 54 = .ok (.putfield 148, 3) := by decide +kernel
theorem dX6_readGrows_57 : decode cX6_readGrows 57 = .ok (.iload_n 1, 1) := by decide +kernel
theorem dX6_readGrows_58 : decode cX6_readGrows 58 = .ok (.ifCond .eq 11, 3) := by decide +kernel
theorem dX6_readGrows_61 : decode cX6_readGrows 61 = .ok (.aload_n 0, 1) := by decide +kernel
theorem dX6_readGrows_62 : decode cX6_readGrows 62 = .ok (.iload_n 1, 1) := by decide +kernel
theorem dX6_readGrows_63 : decode cX6_readGrows 63 = .ok (.invokevirtual 72, 3) := by decide +kernel
theorem dX6_readGrows_66 : decode cX6_readGrows 66 = .ok (.ifCond .eq 7, 3) := by decide +kernel
theorem dX6_readGrows_69 : decode cX6_readGrows 69 = .ok (.iconst 1, 1) := by decide +kernel
theorem dX6_readGrows_70 : decode cX6_readGrows 70 = .ok (.goto 4, 3) := by decide +kernel
theorem dX6_readGrows_73 : decode cX6_readGrows 73 = .ok (.iconst 0, 1) := by decide +kernel
theorem dX6_readGrows_74 : decode cX6_readGrows 74 = .ok (.ireturn, 1) := by decide +kernel
def g_X6_readGrows (h : zH) (t0 : Nat) : Option (Bool × zH) := (g_X6_takeOnce h t0).bind fun v_1 => if (zb v_1.1) = 0 then (some (false, v_1.2)) else (zlet (zpi v_1.2 (zR (zR t0 1) 6) 8 (v_1.2.1 (zR (zR t0 1) 6) 7)) fun h_3 => (g_X0_readLaw h_3 (zR t0 4)).bind fun v_4 => zlet (zpi v_4.2 (zR (zR t0 1) 6) 9 (v_4.2.1 (zR (zR t0 1) 6) 7)) fun h_5 => if v_4.1 = 0 then (some (true, h_5)) else ((g_X4_fail_c5 h_5 t0 v_4.1).bind fun v_7 => if (zb v_7.1) = 0 then (some (false, v_7.2)) else (some (true, v_7.2))))
set_option maxRecDepth 100000 in
set_option maxHeartbeats 4000000 in
theorem b_X6_readGrows {K : zK} {G : zG} (hK : zC K G cX6_readGrows RX6 2 7 152 (some .boolean)) {h : zH} {t0 : Nat} (ht0 : zT t0 = (5, 0)) {r : Bool × zH} (hE : zE K G (some (.int (zb r.1))) r.2) (hg : g_X6_readGrows h t0 = some r) : zW K G 2 0 [(0, .ref (G.2.2.2 t0))] [] h := by
  rw [g_X6_readGrows] at hg
  obtain ⟨v_1, qv_1, hg⟩ := zbind_some hg
  refine z_aload_n (pc := 0) hK 0 dX6_readGrows_0 rfl (z_callVi (pc := 1) hK [] (m_X6_takeOnce (zC_D hK) ht0 qv_1) sv_X6_takeOnce q_746 ht0 rfl [] rfl (Nat.le_of_ble_eq_true rfl) ⟨by decide, by decide⟩ dX6_readGrows_1 (z_if_ne (pc := 4) hK 9 dX6_readGrows_4 (by decide) (fun c_2 => ?_) (fun c_2 => ?_)))
  · rw [if_neg c_2] at hg
    obtain ⟨h_3, eh_3, hg⟩ := zlet_some hg
    obtain ⟨v_4, qv_4, hg⟩ := zbind_some hg
    obtain ⟨h_5, eh_5, hg⟩ := zlet_some hg
    refine z_aload_n (pc := 9) hK 0 dX6_readGrows_9 rfl (z_getR (pc := 10) hK f_X6_26_5 ht0 dX6_readGrows_10 (z_getR (pc := 13) hK f_X6_11_4 (zt_5_1 ht0) dX6_readGrows_13 (z_aload_n (pc := 16) hK 0 dX6_readGrows_16 rfl (z_getR (pc := 17) hK f_X6_26_5 ht0 dX6_readGrows_17 (z_getR (pc := 20) hK f_X6_11_4 (zt_5_1 ht0) dX6_readGrows_20 (z_getI (pc := 23) hK f_X6_136_1 (zt_4_6 (zt_5_1 ht0)) dX6_readGrows_23 (z_putI (pc := 26) hK f_X6_141_1 fp_1_8 (zt_4_6 (zt_5_1 ht0)) dX6_readGrows_26 (z_nameH eh_3 (z_aload_n (pc := 29) hK 0 dX6_readGrows_29 rfl (z_getR (pc := 30) hK f_X6_20_5 ht0 dX6_readGrows_30 (z_callVi (pc := 33) hK [] (m_X0_readLaw (zC_D hK) (zt_5_4 ht0) qv_4) sv_X0_readLaw q_768 (zt_5_4 ht0) rfl [] rfl (Nat.le_of_ble_eq_true rfl) ⟨by decide, by decide⟩ dX6_readGrows_33 (z_istore_n (pc := 36) hK (lv' := [(1, .int v_4.1), (0, .ref (G.2.2.2 t0))]) dX6_readGrows_36 (by decide) rfl (z_aload_n (pc := 37) hK 1 dX6_readGrows_37 rfl (z_getR (pc := 38) hK f_X6_26_5 ht0 dX6_readGrows_38 (z_getR (pc := 41) hK f_X6_11_4 (zt_5_1 ht0) dX6_readGrows_41 (z_aload_n (pc := 44) hK 1 dX6_readGrows_44 rfl (z_getR (pc := 45) hK f_X6_26_5 ht0 dX6_readGrows_45 (z_getR (pc := 48) hK f_X6_11_4 (zt_5_1 ht0) dX6_readGrows_48 (z_getI (pc := 51) hK f_X6_136_1 (zt_4_6 (zt_5_1 ht0)) dX6_readGrows_51 (z_putI (pc := 54) hK f_X6_148_1 fp_1_9 (zt_4_6 (zt_5_1 ht0)) dX6_readGrows_54 (z_nameH eh_5 (z_iload_n (pc := 57) hK 0 dX6_readGrows_57 rfl (z_if_eq (pc := 58) hK 69 dX6_readGrows_58 (by decide) (fun c_6 => ?_) (fun c_6 => ?_))))))))))))))))))))))))
    · rw [if_pos c_6] at hg
      exact z_iconst (pc := 69) hK dX6_readGrows_69 zc_i1 (z_goto (pc := 70) hK 74 dX6_readGrows_70 (by decide) (z_zretE (pc := 74) hK rfl hE hg dX6_readGrows_74))
    · rw [if_neg c_6] at hg
      obtain ⟨v_7, qv_7, hg⟩ := zbind_some hg
      refine z_aload_n (pc := 61) hK 1 dX6_readGrows_61 rfl (z_iload_n (pc := 62) hK 0 dX6_readGrows_62 rfl (z_callUi (pc := 63) hK [.int v_4.1] (m_X4_fail_c5 (zC_D hK) ht0 qv_7) su_X4_fail_c5_X6 q_680 ht0 rfl [] rfl (Nat.le_of_ble_eq_true rfl) ⟨by decide, by decide⟩ dX6_readGrows_63 (z_if_eq (pc := 66) hK 73 dX6_readGrows_66 (by decide) (fun c_8 => ?_) (fun c_8 => ?_))))
      · rw [if_pos c_8] at hg
        exact z_iconst (pc := 73) hK dX6_readGrows_73 zc_i0 (z_zretE (pc := 74) hK rfl hE hg dX6_readGrows_74)
      · rw [if_neg c_8] at hg
        exact z_iconst (pc := 69) hK dX6_readGrows_69 zc_i1 (z_goto (pc := 70) hK 74 dX6_readGrows_70 (by decide) (z_zretE (pc := 74) hK rfl hE hg dX6_readGrows_74))
  · rw [if_pos c_2] at hg
    exact z_iconst (pc := 7) hK dX6_readGrows_7 zc_i0 (z_zretE (pc := 8) hK rfl hE hg dX6_readGrows_8)
theorem m_X6_readGrows {l : Launch} {G : zG} (hG : zD G) {h : zH} {t0 : Nat} (ht0 : zT t0 = (5, 0)) {r : Bool × zH} (hg : g_X6_readGrows h t0 = some r) : zM l G yX6_readGrows cX6_readGrows 2 (some .boolean) 7 152 [.ref (G.2.2.2 t0)] h (some (.int (zb r.1))) r.2 :=
  zM_of hG pn_X6 (Nat.le_of_ble_eq_true rfl) (fun K _ hK hE => b_X6_readGrows hK ht0 hE hg)
