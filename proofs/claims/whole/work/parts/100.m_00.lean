theorem dX0_letWait_0 : decode cX0_letWait 0 = .ok (.aload_n 0, 1) := by decide +kernel
theorem dX0_letWait_1 : decode cX0_letWait 1 = .ok (.getfield 21, 3) := by decide +kernel
theorem dX0_letWait_4 : decode cX0_letWait 4 = .ok (.bipush 32, 2) := by decide +kernel
theorem dX0_letWait_6 : decode cX0_letWait 6 = .ok (.if_icmp .ge 23, 3) := by decide +kernel
theorem dX0_letWait_9 : decode cX0_letWait 9 = .ok (.aload_n 0, 1) := by decide +kernel
theorem dX0_letWait_10 : decode cX0_letWait 10 = .ok (.getfield 9, 3) := by decide +kernel
theorem dX0_letWait_13 : decode cX0_letWait 13 = .ok (.aload_n 0, 1) := by decide +kernel
theorem dX0_letWait_14 : decode cX0_letWait 14 = .ok (.getfield 21, 3) := by decide +kernel
theorem dX0_letWait_17 : decode cX0_letWait 17 = .ok (.iload_n 1, 1) := by decide +kernel
theorem dX0_letWait_18 : decode cX0_letWait 18 = .ok (.iastore, 1) := by decide +kernel
theorem dX0_letWait_19 : decode cX0_letWait 19 = .ok (.aload_n 0, 1) := by decide +kernel
theorem dX0_letWait_20 : decode cX0_letWait 20 = .ok (.dup, 1) := by decide +kernel
theorem dX0_letWait_21 : decode cX0_letWait 21 = .ok (.getfield 21, 3) := by decide +kernel
theorem dX0_letWait_24 : decode cX0_letWait 24 = .ok (.iconst 1, 1) := by decide +kernel
theorem dX0_letWait_25 : decode cX0_letWait 25 = .ok (.iadd, 1) := by decide +kernel
theorem dX0_letWait_26 : decode cX0_letWait 26 = .ok (.putfield 21, 3) := by decide +kernel
theorem dX0_letWait_29 : decode cX0_letWait 29 = .ok (.return_, 1) := by decide +kernel
def g_X0_letWait (h : zH) (t0 : Nat) (x1 : Int32) : Option zH := if 32 ≤ (h.1 t0 3) then (some h) else (zgu (zin (h.1 t0 3) 32) <| zlet (zpi h (zR t0 2) (zx (h.1 t0 3)) x1) fun h_3 => zlet (zpi h_3 t0 3 ((h_3.1 t0 3) + 1)) fun h_4 => some h_4)
set_option maxRecDepth 100000 in
set_option maxHeartbeats 4000000 in
theorem b_X0_letWait {K : zK} {G : zG} (hK : zC K G cX0_letWait RX0 2 0 0 none) {h : zH} {t0 : Nat} {x1 : Int32} (ht0 : zT t0 = (0, 0)) {r : zH} (hE : zE K G (none) r) (hg : g_X0_letWait h t0 x1 = some r) : zW K G 2 0 [(0, .ref (G.2.2.2 t0)), (1, .int x1)] [] h := by
  rw [g_X0_letWait] at hg
  refine z_aload_n (pc := 0) hK 0 dX0_letWait_0 rfl (z_getI (pc := 1) hK f_X0_21_0 ht0 dX0_letWait_1 (z_bipush (pc := 4) hK dX0_letWait_4 zc_b32 (z_icmp_ge (pc := 6) hK 29 dX0_letWait_6 (by decide) (fun c_1 => ?_) (fun c_1 => ?_))))
  · rw [if_pos c_1] at hg
    exact z_vretE (pc := 29) hK hE hg dX0_letWait_29
  · rw [if_neg c_1] at hg
    obtain ⟨c_2, hg⟩ := zgu_some hg
    obtain ⟨h_3, eh_3, hg⟩ := zlet_some hg
    obtain ⟨h_4, eh_4, hg⟩ := zlet_some hg
    exact z_aload_n (pc := 9) hK 0 dX0_letWait_9 rfl (z_getR (pc := 10) hK f_X0_9_0 ht0 dX0_letWait_10 (z_aload_n (pc := 13) hK 0 dX0_letWait_13 rfl (z_getI (pc := 14) hK f_X0_21_0 ht0 dX0_letWait_14 (z_iload_n (pc := 17) hK 1 dX0_letWait_17 rfl (z_iast (pc := 18) hK (zt_0_2 ht0) c_2 dX0_letWait_18 (z_nameH eh_3 (z_aload_n (pc := 19) hK 0 dX0_letWait_19 rfl (z_dup (pc := 20) hK dX0_letWait_20 rfl (z_getI (pc := 21) hK f_X0_21_0 ht0 dX0_letWait_21 (z_iconst (pc := 24) hK dX0_letWait_24 zc_i1 (z_iadd (pc := 25) hK dX0_letWait_25 (z_putI (pc := 26) hK f_X0_21_0 fp_0_3 ht0 dX0_letWait_26 (z_nameH eh_4 (z_vretE (pc := 29) hK hE hg dX0_letWait_29))))))))))))))
theorem m_X0_letWait {l : Launch} {G : zG} (hG : zD G) {h : zH} {t0 : Nat} {x1 : Int32} (ht0 : zT t0 = (0, 0)) {r : zH} (hg : g_X0_letWait h t0 x1 = some r) : zM l G yX0_letWait cX0_letWait 2 none 0 0 [.ref (G.2.2.2 t0), .int x1] h (none) r :=
  zM_of hG pn_X0 (Nat.le_of_ble_eq_true rfl) (fun K _ hK hE => b_X0_letWait hK ht0 hE hg)
theorem dX1_addToken_0 : decode cX1_addToken 0 = .ok (.aload_n 0, 1) := by decide +kernel
theorem dX1_addToken_1 : decode cX1_addToken 1 = .ok (.getfield 20, 3) := by decide +kernel
theorem dX1_addToken_4 : decode cX1_addToken 4 = .ok (.sipush 1000, 3) := by decide +kernel
theorem dX1_addToken_7 : decode cX1_addToken 7 = .ok (.if_icmp .ge 23, 3) := by decide +kernel
theorem dX1_addToken_10 : decode cX1_addToken 10 = .ok (.aload_n 0, 1) := by decide +kernel
theorem dX1_addToken_11 : decode cX1_addToken 11 = .ok (.getfield 11, 3) := by decide +kernel
theorem dX1_addToken_14 : decode cX1_addToken 14 = .ok (.aload_n 0, 1) := by decide +kernel
theorem dX1_addToken_15 : decode cX1_addToken 15 = .ok (.getfield 20, 3) := by decide +kernel
theorem dX1_addToken_18 : decode cX1_addToken 18 = .ok (.iload_n 1, 1) := by decide +kernel
theorem dX1_addToken_19 : decode cX1_addToken 19 = .ok (.iastore, 1) := by decide +kernel
theorem dX1_addToken_20 : decode cX1_addToken 20 = .ok (.aload_n 0, 1) := by decide +kernel
theorem dX1_addToken_21 : decode cX1_addToken 21 = .ok (.dup, 1) := by decide +kernel
theorem dX1_addToken_22 : decode cX1_addToken 22 = .ok (.getfield 20, 3) := by decide +kernel
theorem dX1_addToken_25 : decode cX1_addToken 25 = .ok (.iconst 1, 1) := by decide +kernel
theorem dX1_addToken_26 : decode cX1_addToken 26 = .ok (.iadd, 1) := by decide +kernel
theorem dX1_addToken_27 : decode cX1_addToken 27 = .ok (.putfield 20, 3) := by decide +kernel
theorem dX1_addToken_30 : decode cX1_addToken 30 = .ok (.return_, 1) := by decide +kernel
def g_X1_addToken (h : zH) (t0 : Nat) (x1 : Int32) : Option zH := if 1000 ≤ (h.1 t0 7) then (some h) else (zgu (zin (h.1 t0 7) 1000) <| zlet (zpi h (zR t0 0) (zx (h.1 t0 7)) x1) fun h_3 => zlet (zpi h_3 t0 7 ((h_3.1 t0 7) + 1)) fun h_4 => some h_4)
set_option maxRecDepth 100000 in
set_option maxHeartbeats 4000000 in
theorem b_X1_addToken {K : zK} {G : zG} (hK : zC K G cX1_addToken RX1 2 0 0 none) {h : zH} {t0 : Nat} {x1 : Int32} (ht0 : zT t0 = (1, 0)) {r : zH} (hE : zE K G (none) r) (hg : g_X1_addToken h t0 x1 = some r) : zW K G 2 0 [(0, .ref (G.2.2.2 t0)), (1, .int x1)] [] h := by
  rw [g_X1_addToken] at hg
  refine z_aload_n (pc := 0) hK 0 dX1_addToken_0 rfl (z_getI (pc := 1) hK f_X1_20_1 ht0 dX1_addToken_1 (z_sipush (pc := 4) hK dX1_addToken_4 zc_s1000 (z_icmp_ge (pc := 7) hK 30 dX1_addToken_7 (by decide) (fun c_1 => ?_) (fun c_1 => ?_))))
  · rw [if_pos c_1] at hg
    exact z_vretE (pc := 30) hK hE hg dX1_addToken_30
  · rw [if_neg c_1] at hg
    obtain ⟨c_2, hg⟩ := zgu_some hg
    obtain ⟨h_3, eh_3, hg⟩ := zlet_some hg
    obtain ⟨h_4, eh_4, hg⟩ := zlet_some hg
    exact z_aload_n (pc := 10) hK 0 dX1_addToken_10 rfl (z_getR (pc := 11) hK f_X1_11_1 ht0 dX1_addToken_11 (z_aload_n (pc := 14) hK 0 dX1_addToken_14 rfl (z_getI (pc := 15) hK f_X1_20_1 ht0 dX1_addToken_15 (z_iload_n (pc := 18) hK 1 dX1_addToken_18 rfl (z_iast (pc := 19) hK (zt_1_0 ht0) c_2 dX1_addToken_19 (z_nameH eh_3 (z_aload_n (pc := 20) hK 0 dX1_addToken_20 rfl (z_dup (pc := 21) hK dX1_addToken_21 rfl (z_getI (pc := 22) hK f_X1_20_1 ht0 dX1_addToken_22 (z_iconst (pc := 25) hK dX1_addToken_25 zc_i1 (z_iadd (pc := 26) hK dX1_addToken_26 (z_putI (pc := 27) hK f_X1_20_1 fp_1_7 ht0 dX1_addToken_27 (z_nameH eh_4 (z_vretE (pc := 30) hK hE hg dX1_addToken_30))))))))))))))
theorem m_X1_addToken {l : Launch} {G : zG} (hG : zD G) {h : zH} {t0 : Nat} {x1 : Int32} (ht0 : zT t0 = (1, 0)) {r : zH} (hg : g_X1_addToken h t0 x1 = some r) : zM l G yX1_addToken cX1_addToken 2 none 0 0 [.ref (G.2.2.2 t0), .int x1] h (none) r :=
  zM_of hG pn_X1 (Nat.le_of_ble_eq_true rfl) (fun K _ hK hE => b_X1_addToken hK ht0 hE hg)
theorem dX1_addNumber_0 : decode cX1_addNumber 0 = .ok (.aload_n 0, 1) := by decide +kernel
theorem dX1_addNumber_1 : decode cX1_addNumber 1 = .ok (.iload_n 1, 1) := by decide +kernel
theorem dX1_addNumber_2 : decode cX1_addNumber 2 = .ok (.iconst (-1), 1) := by decide +kernel
theorem dX1_addNumber_3 : decode cX1_addNumber 3 = .ok (.ixor, 1) := by decide +kernel
theorem dX1_addNumber_4 : decode cX1_addNumber 4 = .ok (.invokevirtual 42, 3) := by decide +kernel
theorem dX1_addNumber_7 : decode cX1_addNumber 7 = .ok (.return_, 1) := by decide +kernel
def g_X1_addNumber (h : zH) (t0 : Nat) (x1 : Int32) : Option zH := (g_X1_addToken h t0 (x1 ^^^ (-1))).bind fun v_1 => some v_1
set_option maxRecDepth 100000 in
set_option maxHeartbeats 4000000 in
theorem b_X1_addNumber {K : zK} {G : zG} (hK : zC K G cX1_addNumber RX1 2 1 21 none) {h : zH} {t0 : Nat} {x1 : Int32} (ht0 : zT t0 = (1, 0)) {r : zH} (hE : zE K G (none) r) (hg : g_X1_addNumber h t0 x1 = some r) : zW K G 2 0 [(0, .ref (G.2.2.2 t0)), (1, .int x1)] [] h := by
  rw [g_X1_addNumber] at hg
  obtain ⟨v_1, qv_1, hg⟩ := zbind_some hg
  exact z_aload_n (pc := 0) hK 0 dX1_addNumber_0 rfl (z_iload_n (pc := 1) hK 1 dX1_addNumber_1 rfl (z_iconst (pc := 2) hK dX1_addNumber_2 zc_im1 (z_ixor (pc := 3) hK dX1_addNumber_3 (z_callVv (pc := 4) hK [.int (x1 ^^^ (-1))] (m_X1_addToken (zC_D hK) ht0 qv_1) sv_X1_addToken q_784 ht0 rfl [] rfl (Nat.le_of_ble_eq_true rfl) ⟨by decide, by decide⟩ dX1_addNumber_4 (z_vretE (pc := 7) hK hE hg dX1_addNumber_7)))))
theorem m_X1_addNumber {l : Launch} {G : zG} (hG : zD G) {h : zH} {t0 : Nat} {x1 : Int32} (ht0 : zT t0 = (1, 0)) {r : zH} (hg : g_X1_addNumber h t0 x1 = some r) : zM l G yX1_addNumber cX1_addNumber 2 none 1 21 [.ref (G.2.2.2 t0), .int x1] h (none) r :=
  zM_of hG pn_X1 (Nat.le_of_ble_eq_true rfl) (fun K _ hK hE => b_X1_addNumber hK ht0 hE hg)
theorem dX0_endPart_0 : decode cX0_endPart 0 = .ok (.aload_n 0, 1) := by decide +kernel
theorem dX0_endPart_1 : decode cX0_endPart 1 = .ok (.iconst 0, 1) := by decide +kernel
theorem dX0_endPart_2 : decode cX0_endPart 2 = .ok (.putfield 31, 3) := by decide +kernel
theorem dX0_endPart_5 : decode cX0_endPart 5 = .ok (.aload_n 0, 1) := by decide +kernel
theorem dX0_endPart_6 : decode cX0_endPart 6 = .ok (.getfield 21, 3) := by decide +kernel
theorem dX0_endPart_9 : decode cX0_endPart 9 = .ok (.ifCond .le 51, 3) := by decide +kernel
theorem dX0_endPart_12 : decode cX0_endPart 12 = .ok (.aload_n 0, 1) := by decide +kernel
theorem dX0_endPart_13 : decode cX0_endPart 13 = .ok (.getfield 9, 3) := by decide +kernel
theorem dX0_endPart_16 : decode cX0_endPart 16 = .ok (.aload_n 0, 1) := by decide +kernel
theorem dX0_endPart_17 : decode cX0_endPart 17 = .ok (.getfield 21, 3) := by decide +kernel
theorem dX0_endPart_20 : decode cX0_endPart 20 = .ok (.iconst 1, 1) := by decide +kernel
theorem dX0_endPart_21 : decode cX0_endPart 21 = .ok (.isub, 1) := by decide +kernel
theorem dX0_endPart_22 : decode cX0_endPart 22 = .ok (.iaload, 1) := by decide +kernel
theorem dX0_endPart_23 : decode cX0_endPart 23 = .ok (.bipush 35, 2) := by decide +kernel
theorem dX0_endPart_25 : decode cX0_endPart 25 = .ok (.if_icmp .ne 35, 3) := by decide +kernel
theorem dX0_endPart_28 : decode cX0_endPart 28 = .ok (.aload_n 0, 1) := by decide +kernel
theorem dX0_endPart_29 : decode cX0_endPart 29 = .ok (.dup, 1) := by decide +kernel
theorem dX0_endPart_30 : decode cX0_endPart 30 = .ok (.getfield 21, 3) := by decide +kernel
theorem dX0_endPart_33 : decode cX0_endPart 33 = .ok (.iconst 1, 1) := by decide +kernel
theorem dX0_endPart_34 : decode cX0_endPart 34 = .ok (.isub, 1) := by decide +kernel
theorem dX0_endPart_35 : decode cX0_endPart 35 = .ok (.putfield 21, 3) := by decide +kernel
theorem dX0_endPart_38 : decode cX0_endPart 38 = .ok (.aload_n 0, 1) := by decide +kernel
theorem dX0_endPart_39 : decode cX0_endPart 39 = .ok (.dup, 1) := by decide +kernel
theorem dX0_endPart_40 : decode cX0_endPart 40 = .ok (.getfield 28, 3) := by decide +kernel
theorem dX0_endPart_43 : decode cX0_endPart 43 = .ok (.iconst 1, 1) := by decide +kernel
theorem dX0_endPart_44 : decode cX0_endPart 44 = .ok (.isub, 1) := by decide +kernel
theorem dX0_endPart_45 : decode cX0_endPart 45 = .ok (.putfield 28, 3) := by decide +kernel
theorem dX0_endPart_48 : decode cX0_endPart 48 = .ok (.aload_n 0, 1) := by decide +kernel
theorem dX0_endPart_49 : decode cX0_endPart 49 = .ok (.getfield 17, 3) := by decide +kernel
theorem dX0_endPart_52 : decode cX0_endPart 52 = .ok (.bipush 35, 2) := by decide +kernel
theorem dX0_endPart_54 : decode cX0_endPart 54 = .ok (.invokevirtual 74, 3) := by decide +kernel
theorem dX0_endPart_57 : decode cX0_endPart 57 = .ok (.goto (-52), 3) := by decide +kernel
theorem dX0_endPart_60 : decode cX0_endPart 60 = .ok (.return_, 1) := by decide +kernel
def g_X0_endPart_5 (t0 : Nat)  : Nat → zH → Option zH
  | 0, _ => none
  | n + 1, h => if (h.1 t0 3) ≤ 0 then (some h) else (zgu (zin ((h.1 t0 3) - 1) 32) <| if (h.1 (zR t0 2) (zx ((h.1 t0 3) - 1))) = 35 then (zlet (zpi h t0 3 ((h.1 t0 3) - 1)) fun h_5 => zlet (zpi h_5 t0 5 ((h_5.1 t0 5) - 1)) fun h_6 => (g_X1_addToken h_6 (zR t0 1) 35).bind fun v_7 => g_X0_endPart_5 t0 n v_7) else (some h))
def g_X0_endPart (h : zH) (t0 : Nat) : Option zH := zlet (zpi h t0 6 0) fun h_1 => g_X0_endPart_5 t0 zfu h_1
set_option maxRecDepth 100000 in
set_option maxHeartbeats 4000000 in
theorem b_X0_endPart_5 {K : zK} {G : zG} (hK : zC K G cX0_endPart RX0 1 1 21 none) {t0 : Nat} (ht0 : zT t0 = (0, 0)) {r : zH} (hE : zE K G (none) r) : ∀ (n : Nat) (h : zH), g_X0_endPart_5 t0 n h = some r → zW K G 1 5 [(0, .ref (G.2.2.2 t0))] [] h := by
  intro n
  induction n with
  | zero => intro h hg; exact nomatch (show none = some r from hg)
  | succ n ih =>
    intro h hg
    rw [g_X0_endPart_5] at hg
    refine z_aload_n (pc := 5) hK 0 dX0_endPart_5 rfl (z_getI (pc := 6) hK f_X0_21_0 ht0 dX0_endPart_6 (z_if_le (pc := 9) hK 60 dX0_endPart_9 (by decide) (fun c_2 => ?_) (fun c_2 => ?_)))
    · rw [if_pos c_2] at hg
      exact z_vretE (pc := 60) hK hE hg dX0_endPart_60
    · rw [if_neg c_2] at hg
      obtain ⟨c_3, hg⟩ := zgu_some hg
      refine z_aload_n (pc := 12) hK 0 dX0_endPart_12 rfl (z_getR (pc := 13) hK f_X0_9_0 ht0 dX0_endPart_13 (z_aload_n (pc := 16) hK 0 dX0_endPart_16 rfl (z_getI (pc := 17) hK f_X0_21_0 ht0 dX0_endPart_17 (z_iconst (pc := 20) hK dX0_endPart_20 zc_i1 (z_isub (pc := 21) hK dX0_endPart_21 (z_iald (pc := 22) hK (zt_0_2 ht0) c_3 dX0_endPart_22 (z_bipush (pc := 23) hK dX0_endPart_23 zc_b35 (z_icmp_ne (pc := 25) hK 60 dX0_endPart_25 (by decide) (fun c_4 => ?_) (fun c_4 => ?_)))))))))
      · rw [if_neg c_4] at hg
        exact z_vretE (pc := 60) hK hE hg dX0_endPart_60
      · rw [if_pos c_4] at hg
        obtain ⟨h_5, eh_5, hg⟩ := zlet_some hg
        obtain ⟨h_6, eh_6, hg⟩ := zlet_some hg
        obtain ⟨v_7, qv_7, hg⟩ := zbind_some hg
        exact z_aload_n (pc := 28) hK 0 dX0_endPart_28 rfl (z_dup (pc := 29) hK dX0_endPart_29 rfl (z_getI (pc := 30) hK f_X0_21_0 ht0 dX0_endPart_30 (z_iconst (pc := 33) hK dX0_endPart_33 zc_i1 (z_isub (pc := 34) hK dX0_endPart_34 (z_putI (pc := 35) hK f_X0_21_0 fp_0_3 ht0 dX0_endPart_35 (z_nameH eh_5 (z_aload_n (pc := 38) hK 0 dX0_endPart_38 rfl (z_dup (pc := 39) hK dX0_endPart_39 rfl (z_getI (pc := 40) hK f_X0_28_0 ht0 dX0_endPart_40 (z_iconst (pc := 43) hK dX0_endPart_43 zc_i1 (z_isub (pc := 44) hK dX0_endPart_44 (z_putI (pc := 45) hK f_X0_28_0 fp_0_5 ht0 dX0_endPart_45 (z_nameH eh_6 (z_aload_n (pc := 48) hK 0 dX0_endPart_48 rfl (z_getR (pc := 49) hK f_X0_17_0 ht0 dX0_endPart_49 (z_bipush (pc := 52) hK dX0_endPart_52 zc_b35 (z_callVv (pc := 54) hK [.int 35] (m_X1_addToken (zC_D hK) (zt_0_1 ht0) qv_7) sv_X1_addToken q_788 (zt_0_1 ht0) rfl [] rfl (Nat.le_of_ble_eq_true rfl) ⟨by decide, by decide⟩ dX0_endPart_54 (z_goto (pc := 57) hK 5 dX0_endPart_57 (by decide) (zsub (lv' := [(0, .ref (G.2.2.2 t0))]) [0] rfl (ih v_7 hg))))))))))))))))))))
set_option maxRecDepth 100000 in
set_option maxHeartbeats 4000000 in
theorem b_X0_endPart {K : zK} {G : zG} (hK : zC K G cX0_endPart RX0 1 1 21 none) {h : zH} {t0 : Nat} (ht0 : zT t0 = (0, 0)) {r : zH} (hE : zE K G (none) r) (hg : g_X0_endPart h t0 = some r) : zW K G 1 0 [(0, .ref (G.2.2.2 t0))] [] h := by
  rw [g_X0_endPart] at hg
  obtain ⟨h_1, eh_1, hg⟩ := zlet_some hg
  exact z_aload_n (pc := 0) hK 0 dX0_endPart_0 rfl (z_iconst (pc := 1) hK dX0_endPart_1 zc_i0 (z_putZ (pc := 2) hK f_X0_31_0 fp_0_6 rfl ht0 dX0_endPart_2 (z_nameH eh_1 (zsub (lv' := [(0, .ref (G.2.2.2 t0))]) [0] rfl (b_X0_endPart_5 hK ht0 hE zfu h_1 hg)))))
theorem m_X0_endPart {l : Launch} {G : zG} (hG : zD G) {h : zH} {t0 : Nat} (ht0 : zT t0 = (0, 0)) {r : zH} (hg : g_X0_endPart h t0 = some r) : zM l G yX0_endPart cX0_endPart 1 none 1 21 [.ref (G.2.2.2 t0)] h (none) r :=
  zM_of hG pn_X0 (Nat.le_of_ble_eq_true rfl) (fun K _ hK hE => b_X0_endPart hK ht0 hE hg)
theorem dX0_takePart_0 : decode cX0_takePart 0 = .ok (.aload_n 0, 1) := by decide +kernel
theorem dX0_takePart_1 : decode cX0_takePart 1 = .ok (.getfield 13, 3) := by decide +kernel
theorem dX0_takePart_4 : decode cX0_takePart 4 = .ok (.getfield 41, 3) := by decide +kernel
theorem dX0_takePart_7 : decode cX0_takePart 7 = .ok (.istore_n 1, 1) := by decide +kernel
theorem dX0_takePart_8 : decode cX0_takePart 8 = .ok (.iload_n 1, 1) := by decide +kernel
theorem dX0_takePart_9 : decode cX0_takePart 9 = .ok (.bipush 35, 2) := by decide +kernel
theorem dX0_takePart_11 : decode cX0_takePart 11 = .ok (.if_icmp .eq 8, 3) := by decide +kernel
theorem dX0_takePart_14 : decode cX0_takePart 14 = .ok (.iload_n 1, 1) := by decide +kernel
theorem dX0_takePart_15 : decode cX0_takePart 15 = .ok (.iconst 4, 1) := by decide +kernel
theorem dX0_takePart_16 : decode cX0_takePart 16 = .ok (.if_icmp .ne 7, 3) := by decide +kernel
theorem dX0_takePart_19 : decode cX0_takePart 19 = .ok (.iconst 1, 1) := by decide +kernel
theorem dX0_takePart_20 : decode cX0_takePart 20 = .ok (.goto 4, 3) := by decide +kernel
theorem dX0_takePart_23 : decode cX0_takePart 23 = .ok (.iconst 0, 1) := by decide +kernel
theorem dX0_takePart_24 : decode cX0_takePart 24 = .ok (.istore_n 2, 1) := by decide +kernel
theorem dX0_takePart_25 : decode cX0_takePart 25 = .ok (.iload_n 2, 1) := by decide +kernel
theorem dX0_takePart_26 : decode cX0_takePart 26 = .ok (.ifCond .ne 16, 3) := by decide +kernel
theorem dX0_takePart_29 : decode cX0_takePart 29 = .ok (.iload_n 1, 1) := by decide +kernel
theorem dX0_takePart_30 : decode cX0_takePart 30 = .ok (.iconst 3, 1) := by decide +kernel
theorem dX0_takePart_31 : decode cX0_takePart 31 = .ok (.if_icmp .eq 11, 3) := by decide +kernel
theorem dX0_takePart_34 : decode cX0_takePart 34 = .ok (.iload_n 1, 1) := by decide +kernel
theorem dX0_takePart_35 : decode cX0_takePart 35 = .ok (.bipush 38, 2) := by decide +kernel
theorem dX0_takePart_37 : decode cX0_takePart 37 = .ok (.if_icmp .ge 5, 3) := by decide +kernel
theorem dX0_takePart_40 : decode cX0_takePart 40 = .ok (.iconst 1, 1) := by decide +kernel
theorem dX0_takePart_41 : decode cX0_takePart 41 = .ok (.ireturn, 1) := by decide +kernel
theorem dX0_takePart_42 : decode cX0_takePart 42 = .ok (.aload_n 0, 1) := by decide +kernel
theorem dX0_takePart_43 : decode cX0_takePart 43 = .ok (.getfield 28, 3) := by decide +kernel
theorem dX0_takePart_46 : decode cX0_takePart 46 = .ok (.iconst 5, 1) := by decide +kernel
theorem dX0_takePart_47 : decode cX0_takePart 47 = .ok (.if_icmp .lt 5, 3) := by decide +kernel
theorem dX0_takePart_50 : decode cX0_takePart 50 = .ok (.iconst 5, 1) := by decide +kernel
theorem dX0_takePart_51 : decode cX0_takePart 51 = .ok (.ireturn, 1) := by decide +kernel
theorem dX0_takePart_52 : decode cX0_takePart 52 = .ok (.iload_n 2, 1) := by decide +kernel
theorem dX0_takePart_53 : decode cX0_takePart 53 = .ok (.ifCond .eq 39, 3) := by decide +kernel
theorem dX0_takePart_56 : decode cX0_takePart 56 = .ok (.aload_n 0, 1) := by decide +kernel
theorem dX0_takePart_57 : decode cX0_takePart 57 = .ok (.iload_n 1, 1) := by decide +kernel
theorem dX0_takePart_58 : decode cX0_takePart 58 = .ok (.invokevirtual 63, 3) := by decide +kernel
theorem dX0_takePart_61 : decode cX0_takePart 61 = .ok (.aload_n 0, 1) := by decide +kernel
theorem dX0_takePart_62 : decode cX0_takePart 62 = .ok (.dup, 1) := by decide +kernel
theorem dX0_takePart_63 : decode cX0_takePart 63 = .ok (.getfield 28, 3) := by decide +kernel
theorem dX0_takePart_66 : decode cX0_takePart 66 = .ok (.iconst 1, 1) := by decide +kernel
theorem dX0_takePart_67 : decode cX0_takePart 67 = .ok (.iadd, 1) := by decide +kernel
theorem dX0_takePart_68 : decode cX0_takePart 68 = .ok (.putfield 28, 3) := by decide +kernel
theorem dX0_takePart_71 : decode cX0_takePart 71 = .ok (.aload_n 0, 1) := by decide +kernel
theorem dX0_takePart_72 : decode cX0_takePart 72 = .ok (.dup, 1) := by decide +kernel
theorem dX0_takePart_73 : decode cX0_takePart 73 = .ok (.getfield 25, 3) := by decide +kernel
theorem dX0_takePart_76 : decode cX0_takePart 76 = .ok (.iload_n 1, 1) := by decide +kernel
theorem dX0_takePart_77 : decode cX0_takePart 77 = .ok (.iconst 4, 1) := by decide +kernel
theorem dX0_takePart_78 : decode cX0_takePart 78 = .ok (.if_icmp .ne 7, 3) := by decide +kernel
theorem dX0_takePart_81 : decode cX0_takePart 81 = .ok (.iconst 1, 1) := by decide +kernel
theorem dX0_takePart_82 : decode cX0_takePart 82 = .ok (.goto 4, 3) := by decide +kernel
theorem dX0_takePart_85 : decode cX0_takePart 85 = .ok (.iconst 0, 1) := by decide +kernel
theorem dX0_takePart_86 : decode cX0_takePart 86 = .ok (.iadd, 1) := by decide +kernel
theorem dX0_takePart_87 : decode cX0_takePart 87 = .ok (.putfield 25, 3) := by decide +kernel
theorem dX0_takePart_90 : decode cX0_takePart 90 = .ok (.iconst 0, 1) := by decide +kernel
theorem dX0_takePart_91 : decode cX0_takePart 91 = .ok (.ireturn, 1) := by decide +kernel
theorem dX0_takePart_92 : decode cX0_takePart 92 = .ok (.iload_n 1, 1) := by decide +kernel
theorem dX0_takePart_93 : decode cX0_takePart 93 = .ok (.iconst 3, 1) := by decide +kernel
theorem dX0_takePart_94 : decode cX0_takePart 94 = .ok (.if_icmp .ne 20, 3) := by decide +kernel
theorem dX0_takePart_97 : decode cX0_takePart 97 = .ok (.aload_n 0, 1) := by decide +kernel
theorem dX0_takePart_98 : decode cX0_takePart 98 = .ok (.getfield 17, 3) := by decide +kernel
theorem dX0_takePart_101 : decode cX0_takePart 101 = .ok (.aload_n 0, 1) := by decide +kernel
theorem dX0_takePart_102 : decode cX0_takePart 102 = .ok (.getfield 13, 3) := by decide +kernel
theorem dX0_takePart_105 : decode cX0_takePart 105 = .ok (.getfield 66, 3) := by decide +kernel
theorem dX0_takePart_108 : decode cX0_takePart 108 = .ok (.invokevirtual 69, 3) := by decide +kernel
theorem dX0_takePart_111 : decode cX0_takePart 111 = .ok (.goto 11, 3) := by decide +kernel
theorem dX0_takePart_114 : decode cX0_takePart 114 = .ok (.aload_n 0, 1) := by decide +kernel
theorem dX0_takePart_115 : decode cX0_takePart 115 = .ok (.getfield 17, 3) := by decide +kernel
theorem dX0_takePart_118 : decode cX0_takePart 118 = .ok (.iload_n 1, 1) := by decide +kernel
theorem dX0_takePart_119 : decode cX0_takePart 119 = .ok (.invokevirtual 74, 3) := by decide +kernel
theorem dX0_takePart_122 : decode cX0_takePart 122 = .ok (.aload_n 0, 1) := by decide +kernel
theorem dX0_takePart_123 : decode cX0_takePart 123 = .ok (.invokevirtual 77, 3) := by decide +kernel
theorem dX0_takePart_126 : decode cX0_takePart 126 = .ok (.iconst 0, 1) := by decide +kernel
theorem dX0_takePart_127 : decode cX0_takePart 127 = .ok (.ireturn, 1) := by decide +kernel
def g_X0_takePart_122 (t0 : Nat)  (h : zH) : Option (Int32 × zH) := (g_X0_endPart h t0).bind fun v_15 => some (0, v_15)
def g_X0_takePart_86 (t0 : Nat)  (s0 : Int32) (s1 : Int32) (h : zH) : Option (Int32 × zH) := zlet (zpi h t0 4 (s1 + s0)) fun h_16 => some (0, h_16)
def g_X0_takePart_42 (t0 : Nat)  (x1 : Int32) (x2 : Int32) (h : zH) : Option (Int32 × zH) := if (h.1 t0 5) < 5 then (if x2 = 0 then (if x1 = 3 then ((g_X1_addNumber h (zR t0 1) (h.1 (zR t0 0) 4)).bind fun v_11 => g_X0_takePart_122 t0 v_11) else ((g_X1_addToken h (zR t0 1) x1).bind fun v_10 => g_X0_takePart_122 t0 v_10)) else ((g_X0_letWait h t0 x1).bind fun v_12 => zlet (zpi v_12 t0 5 ((v_12.1 t0 5) + 1)) fun h_13 => if x1 = 4 then (g_X0_takePart_86 t0 1 (h_13.1 t0 4) h_13) else (g_X0_takePart_86 t0 0 (h_13.1 t0 4) h_13))) else (some (5, h))
def g_X0_takePart_24 (t0 : Nat)  (x1 : Int32) (s0 : Int32) (h : zH) : Option (Int32 × zH) := if s0 = 0 then (if x1 = 3 then (g_X0_takePart_42 t0 x1 s0 h) else (if 38 ≤ x1 then (g_X0_takePart_42 t0 x1 s0 h) else (some (1, h)))) else (g_X0_takePart_42 t0 x1 s0 h)
def g_X0_takePart_19 (t0 : Nat)  (x1 : Int32) (h : zH) : Option (Int32 × zH) := g_X0_takePart_24 t0 x1 1 h
def g_X0_takePart (h : zH) (t0 : Nat) : Option (Int32 × zH) := zlet (h.1 (zR t0 0) 2) fun v_1 => if v_1 = 35 then (g_X0_takePart_19 t0 v_1 h) else (if v_1 = 4 then (g_X0_takePart_19 t0 v_1 h) else (g_X0_takePart_24 t0 v_1 0 h))
set_option maxRecDepth 100000 in
set_option maxHeartbeats 4000000 in
theorem b_X0_takePart_122 {K : zK} {G : zG} (hK : zC K G cX0_takePart RX0 3 2 42 (some .int)) {t0 : Nat} (ht0 : zT t0 = (0, 0)) {r : Int32 × zH} (hE : zE K G (some (.int r.1)) r.2) (h : zH) (hg : g_X0_takePart_122 t0 h = some r) : zW K G 3 122 [(0, .ref (G.2.2.2 t0))] [] h := by
  rw [g_X0_takePart_122] at hg
  obtain ⟨v_15, qv_15, hg⟩ := zbind_some hg
  exact z_aload_n (pc := 122) hK 0 dX0_takePart_122 rfl (z_callVv (pc := 123) hK [] (m_X0_endPart (zC_D hK) ht0 qv_15) sv_X0_endPart q_789 ht0 rfl [] rfl (Nat.le_of_ble_eq_true rfl) ⟨by decide, by decide⟩ dX0_takePart_123 (z_iconst (pc := 126) hK dX0_takePart_126 zc_i0 (z_iretE (pc := 127) hK hE hg dX0_takePart_127)))
set_option maxRecDepth 100000 in
set_option maxHeartbeats 4000000 in
theorem b_X0_takePart_86 {K : zK} {G : zG} (hK : zC K G cX0_takePart RX0 3 2 42 (some .int)) {t0 : Nat} (ht0 : zT t0 = (0, 0)) {r : Int32 × zH} (hE : zE K G (some (.int r.1)) r.2) (s0 : Int32) (s1 : Int32) (h : zH) (hg : g_X0_takePart_86 t0 s0 s1 h = some r) : zW K G 3 86 [] [.int s0, .int s1, .ref (G.2.2.2 t0)] h := by
  rw [g_X0_takePart_86] at hg
  obtain ⟨h_16, eh_16, hg⟩ := zlet_some hg
  exact z_iadd (pc := 86) hK dX0_takePart_86 (z_putI (pc := 87) hK f_X0_25_0 fp_0_4 ht0 dX0_takePart_87 (z_nameH eh_16 (z_iconst (pc := 90) hK dX0_takePart_90 zc_i0 (z_iretE (pc := 91) hK hE hg dX0_takePart_91))))
set_option maxRecDepth 100000 in
set_option maxHeartbeats 4000000 in
theorem b_X0_takePart_42 {K : zK} {G : zG} (hK : zC K G cX0_takePart RX0 3 2 42 (some .int)) {t0 : Nat} (ht0 : zT t0 = (0, 0)) {r : Int32 × zH} (hE : zE K G (some (.int r.1)) r.2) (x1 : Int32) (x2 : Int32) (h : zH) (hg : g_X0_takePart_42 t0 x1 x2 h = some r) : zW K G 3 42 [(0, .ref (G.2.2.2 t0)), (1, .int x1), (2, .int x2)] [] h := by
  rw [g_X0_takePart_42] at hg
  refine z_aload_n (pc := 42) hK 0 dX0_takePart_42 rfl (z_getI (pc := 43) hK f_X0_28_0 ht0 dX0_takePart_43 (z_iconst (pc := 46) hK dX0_takePart_46 zc_i5 (z_icmp_lt (pc := 47) hK 52 dX0_takePart_47 (by decide) (fun c_7 => ?_) (fun c_7 => ?_))))
  · rw [if_pos c_7] at hg
    refine z_iload_n (pc := 52) hK 2 dX0_takePart_52 rfl (z_if_eq (pc := 53) hK 92 dX0_takePart_53 (by decide) (fun c_8 => ?_) (fun c_8 => ?_))
    · rw [if_pos c_8] at hg
      refine z_iload_n (pc := 92) hK 1 dX0_takePart_92 rfl (z_iconst (pc := 93) hK dX0_takePart_93 zc_i3 (z_icmp_ne (pc := 94) hK 114 dX0_takePart_94 (by decide) (fun c_9 => ?_) (fun c_9 => ?_)))
      · rw [if_neg c_9] at hg
        obtain ⟨v_10, qv_10, hg⟩ := zbind_some hg
        exact z_aload_n (pc := 114) hK 0 dX0_takePart_114 rfl (z_getR (pc := 115) hK f_X0_17_0 ht0 dX0_takePart_115 (z_iload_n (pc := 118) hK 1 dX0_takePart_118 rfl (z_callVv (pc := 119) hK [.int x1] (m_X1_addToken (zC_D hK) (zt_0_1 ht0) qv_10) sv_X1_addToken q_788 (zt_0_1 ht0) rfl [] rfl (Nat.le_of_ble_eq_true rfl) ⟨by decide, by decide⟩ dX0_takePart_119 (zsub (lv' := [(0, .ref (G.2.2.2 t0))]) [0] rfl (b_X0_takePart_122 hK ht0 hE v_10 hg)))))
      · rw [if_pos c_9] at hg
        obtain ⟨v_11, qv_11, hg⟩ := zbind_some hg
        exact z_aload_n (pc := 97) hK 0 dX0_takePart_97 rfl (z_getR (pc := 98) hK f_X0_17_0 ht0 dX0_takePart_98 (z_aload_n (pc := 101) hK 0 dX0_takePart_101 rfl (z_getR (pc := 102) hK f_X0_13_0 ht0 dX0_takePart_102 (z_getI (pc := 105) hK f_X0_66_7 (zt_0_0 ht0) dX0_takePart_105 (z_callVv (pc := 108) hK [.int (h.1 (zR t0 0) 4)] (m_X1_addNumber (zC_D hK) (zt_0_1 ht0) qv_11) sv_X1_addNumber q_780 (zt_0_1 ht0) rfl [] rfl (Nat.le_of_ble_eq_true rfl) ⟨by decide, by decide⟩ dX0_takePart_108 (z_goto (pc := 111) hK 122 dX0_takePart_111 (by decide) (zsub (lv' := [(0, .ref (G.2.2.2 t0))]) [0] rfl (b_X0_takePart_122 hK ht0 hE v_11 hg))))))))
    · rw [if_neg c_8] at hg
      obtain ⟨v_12, qv_12, hg⟩ := zbind_some hg
      obtain ⟨h_13, eh_13, hg⟩ := zlet_some hg
      refine z_aload_n (pc := 56) hK 0 dX0_takePart_56 rfl (z_iload_n (pc := 57) hK 1 dX0_takePart_57 rfl (z_callVv (pc := 58) hK [.int x1] (m_X0_letWait (zC_D hK) ht0 qv_12) sv_X0_letWait q_776 ht0 rfl [] rfl (Nat.le_of_ble_eq_true rfl) ⟨by decide, by decide⟩ dX0_takePart_58 (z_aload_n (pc := 61) hK 0 dX0_takePart_61 rfl (z_dup (pc := 62) hK dX0_takePart_62 rfl (z_getI (pc := 63) hK f_X0_28_0 ht0 dX0_takePart_63 (z_iconst (pc := 66) hK dX0_takePart_66 zc_i1 (z_iadd (pc := 67) hK dX0_takePart_67 (z_putI (pc := 68) hK f_X0_28_0 fp_0_5 ht0 dX0_takePart_68 (z_nameH eh_13 (z_aload_n (pc := 71) hK 0 dX0_takePart_71 rfl (z_dup (pc := 72) hK dX0_takePart_72 rfl (z_getI (pc := 73) hK f_X0_25_0 ht0 dX0_takePart_73 (z_iload_n (pc := 76) hK 1 dX0_takePart_76 rfl (z_iconst (pc := 77) hK dX0_takePart_77 zc_i4 (z_icmp_ne (pc := 78) hK 85 dX0_takePart_78 (by decide) (fun c_14 => ?_) (fun c_14 => ?_))))))))))))))))
      · rw [if_neg c_14] at hg
        exact z_iconst (pc := 85) hK dX0_takePart_85 zc_i0 (zsub (lv' := []) [] rfl (b_X0_takePart_86 hK ht0 hE 0 (h_13.1 t0 4) h_13 hg))
      · rw [if_pos c_14] at hg
        exact z_iconst (pc := 81) hK dX0_takePart_81 zc_i1 (z_goto (pc := 82) hK 86 dX0_takePart_82 (by decide) (zsub (lv' := []) [] rfl (b_X0_takePart_86 hK ht0 hE 1 (h_13.1 t0 4) h_13 hg)))
  · rw [if_neg c_7] at hg
    exact z_iconst (pc := 50) hK dX0_takePart_50 zc_i5 (z_iretE (pc := 51) hK hE hg dX0_takePart_51)
set_option maxRecDepth 100000 in
set_option maxHeartbeats 4000000 in
theorem b_X0_takePart_24 {K : zK} {G : zG} (hK : zC K G cX0_takePart RX0 3 2 42 (some .int)) {t0 : Nat} (ht0 : zT t0 = (0, 0)) {r : Int32 × zH} (hE : zE K G (some (.int r.1)) r.2) (x1 : Int32) (s0 : Int32) (h : zH) (hg : g_X0_takePart_24 t0 x1 s0 h = some r) : zW K G 3 24 [(0, .ref (G.2.2.2 t0)), (1, .int x1)] [.int s0] h := by
  rw [g_X0_takePart_24] at hg
  refine z_istore_n (pc := 24) hK (lv' := [(2, .int s0), (0, .ref (G.2.2.2 t0)), (1, .int x1)]) dX0_takePart_24 (by decide) rfl (z_iload_n (pc := 25) hK 0 dX0_takePart_25 rfl (z_if_ne (pc := 26) hK 42 dX0_takePart_26 (by decide) (fun c_4 => ?_) (fun c_4 => ?_)))
  · rw [if_neg c_4] at hg
    exact zsub (lv' := [(0, .ref (G.2.2.2 t0)), (1, .int x1), (2, .int s0)]) [1, 2, 0] rfl (b_X0_takePart_42 hK ht0 hE x1 s0 h hg)
  · rw [if_pos c_4] at hg
    refine z_iload_n (pc := 29) hK 2 dX0_takePart_29 rfl (z_iconst (pc := 30) hK dX0_takePart_30 zc_i3 (z_icmp_eq (pc := 31) hK 42 dX0_takePart_31 (by decide) (fun c_5 => ?_) (fun c_5 => ?_)))
    · rw [if_pos c_5] at hg
      exact zsub (lv' := [(0, .ref (G.2.2.2 t0)), (1, .int x1), (2, .int s0)]) [1, 2, 0] rfl (b_X0_takePart_42 hK ht0 hE x1 s0 h hg)
    · rw [if_neg c_5] at hg
      refine z_iload_n (pc := 34) hK 2 dX0_takePart_34 rfl (z_bipush (pc := 35) hK dX0_takePart_35 zc_b38 (z_icmp_ge (pc := 37) hK 42 dX0_takePart_37 (by decide) (fun c_6 => ?_) (fun c_6 => ?_)))
      · rw [if_pos c_6] at hg
        exact zsub (lv' := [(0, .ref (G.2.2.2 t0)), (1, .int x1), (2, .int s0)]) [1, 2, 0] rfl (b_X0_takePart_42 hK ht0 hE x1 s0 h hg)
      · rw [if_neg c_6] at hg
        exact z_iconst (pc := 40) hK dX0_takePart_40 zc_i1 (z_iretE (pc := 41) hK hE hg dX0_takePart_41)
set_option maxRecDepth 100000 in
set_option maxHeartbeats 4000000 in
theorem b_X0_takePart_19 {K : zK} {G : zG} (hK : zC K G cX0_takePart RX0 3 2 42 (some .int)) {t0 : Nat} (ht0 : zT t0 = (0, 0)) {r : Int32 × zH} (hE : zE K G (some (.int r.1)) r.2) (x1 : Int32) (h : zH) (hg : g_X0_takePart_19 t0 x1 h = some r) : zW K G 3 19 [(0, .ref (G.2.2.2 t0)), (1, .int x1)] [] h := by
  rw [g_X0_takePart_19] at hg
  exact z_iconst (pc := 19) hK dX0_takePart_19 zc_i1 (z_goto (pc := 20) hK 24 dX0_takePart_20 (by decide) (zsub (lv' := [(0, .ref (G.2.2.2 t0)), (1, .int x1)]) [0, 1] rfl (b_X0_takePart_24 hK ht0 hE x1 1 h hg)))
set_option maxRecDepth 100000 in
set_option maxHeartbeats 4000000 in
theorem b_X0_takePart {K : zK} {G : zG} (hK : zC K G cX0_takePart RX0 3 2 42 (some .int)) {h : zH} {t0 : Nat} (ht0 : zT t0 = (0, 0)) {r : Int32 × zH} (hE : zE K G (some (.int r.1)) r.2) (hg : g_X0_takePart h t0 = some r) : zW K G 3 0 [(0, .ref (G.2.2.2 t0))] [] h := by
  rw [g_X0_takePart] at hg
  obtain ⟨v_1, ev_1, hg⟩ := zlet_some hg
  refine z_aload_n (pc := 0) hK 0 dX0_takePart_0 rfl (z_getR (pc := 1) hK f_X0_13_0 ht0 dX0_takePart_1 (z_getI (pc := 4) hK f_X0_41_7 (zt_0_0 ht0) dX0_takePart_4 (z_nameI ev_1 (z_istore_n (pc := 7) hK (lv' := [(1, .int v_1), (0, .ref (G.2.2.2 t0))]) dX0_takePart_7 (by decide) rfl (z_iload_n (pc := 8) hK 0 dX0_takePart_8 rfl (z_bipush (pc := 9) hK dX0_takePart_9 zc_b35 (z_icmp_eq (pc := 11) hK 19 dX0_takePart_11 (by decide) (fun c_2 => ?_) (fun c_2 => ?_))))))))
  · rw [if_pos c_2] at hg
    exact zsub (lv' := [(0, .ref (G.2.2.2 t0)), (1, .int v_1)]) [1, 0] rfl (b_X0_takePart_19 hK ht0 hE v_1 h hg)
  · rw [if_neg c_2] at hg
    refine z_iload_n (pc := 14) hK 0 dX0_takePart_14 rfl (z_iconst (pc := 15) hK dX0_takePart_15 zc_i4 (z_icmp_ne (pc := 16) hK 23 dX0_takePart_16 (by decide) (fun c_3 => ?_) (fun c_3 => ?_)))
    · rw [if_neg c_3] at hg
      exact z_iconst (pc := 23) hK dX0_takePart_23 zc_i0 (zsub (lv' := [(0, .ref (G.2.2.2 t0)), (1, .int v_1)]) [1, 0] rfl (b_X0_takePart_24 hK ht0 hE v_1 0 h hg))
    · rw [if_pos c_3] at hg
      exact zsub (lv' := [(0, .ref (G.2.2.2 t0)), (1, .int v_1)]) [1, 0] rfl (b_X0_takePart_19 hK ht0 hE v_1 h hg)
theorem m_X0_takePart {l : Launch} {G : zG} (hG : zD G) {h : zH} {t0 : Nat} (ht0 : zT t0 = (0, 0)) {r : Int32 × zH} (hg : g_X0_takePart h t0 = some r) : zM l G yX0_takePart cX0_takePart 3 (some .int) 2 42 [.ref (G.2.2.2 t0)] h (some (.int r.1)) r.2 :=
  zM_of hG pn_X0 (Nat.le_of_ble_eq_true rfl) (fun K _ hK hE => b_X0_takePart hK ht0 hE hg)
theorem dX0_rank_0 : decode cX0_rank 0 = .ok (.iload_n 0, 1) := by decide +kernel
theorem dX0_rank_1 : decode cX0_rank 1 = .ok (.lookupswitch 75 #[(6, 69), (7, 69), (8, 71), (9, 71), (10, 73), (36, 67), (37, 67)], 67) := by decide +kernel
theorem dX0_rank_68 : decode cX0_rank 68 = .ok (.iconst 1, 1) := by decide +kernel
theorem dX0_rank_69 : decode cX0_rank 69 = .ok (.ireturn, 1) := by decide +kernel
theorem dX0_rank_70 : decode cX0_rank 70 = .ok (.iconst 2, 1) := by decide +kernel
theorem dX0_rank_71 : decode cX0_rank 71 = .ok (.ireturn, 1) := by decide +kernel
theorem dX0_rank_72 : decode cX0_rank 72 = .ok (.iconst 3, 1) := by decide +kernel
theorem dX0_rank_73 : decode cX0_rank 73 = .ok (.ireturn, 1) := by decide +kernel
theorem dX0_rank_74 : decode cX0_rank 74 = .ok (.iconst 4, 1) := by decide +kernel
theorem dX0_rank_75 : decode cX0_rank 75 = .ok (.ireturn, 1) := by decide +kernel
theorem dX0_rank_76 : decode cX0_rank 76 = .ok (.iconst 0, 1) := by decide +kernel
theorem dX0_rank_77 : decode cX0_rank 77 = .ok (.ireturn, 1) := by decide +kernel
def g_X0_rank (h : zH) (x0 : Int32) : Option Int32 := zlet (x0) fun v_1 => if v_1 = 6 then (some 2) else if v_1 = 7 then (some 2) else if v_1 = 8 then (some 3) else if v_1 = 9 then (some 3) else if v_1 = 10 then (some 4) else if v_1 = 36 then (some 1) else if v_1 = 37 then (some 1) else some 0
set_option maxRecDepth 100000 in
set_option maxHeartbeats 4000000 in
theorem b_X0_rank {K : zK} {G : zG} (hK : zC K G cX0_rank RX0 1 0 0 (some .int)) {h : zH} {x0 : Int32}  {r : Int32} (hE : zE K G (some (.int r)) h) (hg : g_X0_rank h x0 = some r) : zW K G 1 0 [(0, .int x0)] [] h := by
  rw [g_X0_rank] at hg
  obtain ⟨v_1, ev_1, hg⟩ := zlet_some hg
  refine z_iload_n (pc := 0) hK 0 dX0_rank_0 rfl (z_nameI ev_1 ?_)
  by_cases c_2 : v_1 = 6
  · rw [if_pos c_2] at hg
    refine z_lookup (pc := 1) hK 70 dX0_rank_1 (by decide) (by rw [c_2] <;> rfl) (by decide) ?_
    exact z_iconst (pc := 70) hK dX0_rank_70 zc_i2 (z_iretP (pc := 71) hK hE hg dX0_rank_71)
  rw [if_neg c_2] at hg
  by_cases c_3 : v_1 = 7
  · rw [if_pos c_3] at hg
    refine z_lookup (pc := 1) hK 70 dX0_rank_1 (by decide) (by rw [c_3] <;> rfl) (by decide) ?_
    exact z_iconst (pc := 70) hK dX0_rank_70 zc_i2 (z_iretP (pc := 71) hK hE hg dX0_rank_71)
  rw [if_neg c_3] at hg
  by_cases c_4 : v_1 = 8
  · rw [if_pos c_4] at hg
    refine z_lookup (pc := 1) hK 72 dX0_rank_1 (by decide) (by rw [c_4] <;> rfl) (by decide) ?_
    exact z_iconst (pc := 72) hK dX0_rank_72 zc_i3 (z_iretP (pc := 73) hK hE hg dX0_rank_73)
  rw [if_neg c_4] at hg
  by_cases c_5 : v_1 = 9
  · rw [if_pos c_5] at hg
    refine z_lookup (pc := 1) hK 72 dX0_rank_1 (by decide) (by rw [c_5] <;> rfl) (by decide) ?_
    exact z_iconst (pc := 72) hK dX0_rank_72 zc_i3 (z_iretP (pc := 73) hK hE hg dX0_rank_73)
  rw [if_neg c_5] at hg
  by_cases c_6 : v_1 = 10
  · rw [if_pos c_6] at hg
    refine z_lookup (pc := 1) hK 74 dX0_rank_1 (by decide) (by rw [c_6] <;> rfl) (by decide) ?_
    exact z_iconst (pc := 74) hK dX0_rank_74 zc_i4 (z_iretP (pc := 75) hK hE hg dX0_rank_75)
  rw [if_neg c_6] at hg
  by_cases c_7 : v_1 = 36
  · rw [if_pos c_7] at hg
    refine z_lookup (pc := 1) hK 68 dX0_rank_1 (by decide) (by rw [c_7] <;> rfl) (by decide) ?_
    exact z_iconst (pc := 68) hK dX0_rank_68 zc_i1 (z_iretP (pc := 69) hK hE hg dX0_rank_69)
  rw [if_neg c_7] at hg
  by_cases c_8 : v_1 = 37
  · rw [if_pos c_8] at hg
    refine z_lookup (pc := 1) hK 68 dX0_rank_1 (by decide) (by rw [c_8] <;> rfl) (by decide) ?_
    exact z_iconst (pc := 68) hK dX0_rank_68 zc_i1 (z_iretP (pc := 69) hK hE hg dX0_rank_69)
  rw [if_neg c_8] at hg
  refine z_lookup (pc := 1) hK 76 dX0_rank_1 (by decide) (zlook_none (by simp only [List.all_cons, List.all_nil, Bool.and_true, Bool.and_eq_true, decide_eq_true_eq]; exact ⟨zne_k (n := 6) c_2 (by decide), zne_k (n := 7) c_3 (by decide), zne_k (n := 8) c_4 (by decide), zne_k (n := 9) c_5 (by decide), zne_k (n := 10) c_6 (by decide), zne_k (n := 36) c_7 (by decide), zne_k (n := 37) c_8 (by decide)⟩)) (by decide) ?_
  exact z_iconst (pc := 76) hK dX0_rank_76 zc_i0 (z_iretP (pc := 77) hK hE hg dX0_rank_77)
theorem m_X0_rank {l : Launch} {G : zG} (hG : zD G) {h : zH} {x0 : Int32}  {r : Int32} (hg : g_X0_rank h x0 = some r) : zM l G yX0_rank cX0_rank 1 (some .int) 0 0 [.int x0] h (some (.int r)) h :=
  zM_of hG pn_X0 (Nat.le_of_ble_eq_true rfl) (fun K _ hK hE => b_X0_rank hK  hE hg)
theorem dX0_release_0 : decode cX0_release 0 = .ok (.aload_n 0, 1) := by decide +kernel
theorem dX0_release_1 : decode cX0_release 1 = .ok (.getfield 21, 3) := by decide +kernel
theorem dX0_release_4 : decode cX0_release 4 = .ok (.ifCond .le 65, 3) := by decide +kernel
theorem dX0_release_7 : decode cX0_release 7 = .ok (.aload_n 0, 1) := by decide +kernel
theorem dX0_release_8 : decode cX0_release 8 = .ok (.getfield 9, 3) := by decide +kernel
theorem dX0_release_11 : decode cX0_release 11 = .ok (.aload_n 0, 1) := by decide +kernel
theorem dX0_release_12 : decode cX0_release 12 = .ok (.getfield 21, 3) := by decide +kernel
theorem dX0_release_15 : decode cX0_release 15 = .ok (.iconst 1, 1) := by decide +kernel
theorem dX0_release_16 : decode cX0_release 16 = .ok (.isub, 1) := by decide +kernel
theorem dX0_release_17 : decode cX0_release 17 = .ok (.iaload, 1) := by decide +kernel
theorem dX0_release_18 : decode cX0_release 18 = .ok (.iconst 4, 1) := by decide +kernel
theorem dX0_release_19 : decode cX0_release 19 = .ok (.if_icmp .eq 50, 3) := by decide +kernel
theorem dX0_release_22 : decode cX0_release 22 = .ok (.aload_n 0, 1) := by decide +kernel
theorem dX0_release_23 : decode cX0_release 23 = .ok (.getfield 9, 3) := by decide +kernel
theorem dX0_release_26 : decode cX0_release 26 = .ok (.aload_n 0, 1) := by decide +kernel
theorem dX0_release_27 : decode cX0_release 27 = .ok (.getfield 21, 3) := by decide +kernel
theorem dX0_release_30 : decode cX0_release 30 = .ok (.iconst 1, 1) := by decide +kernel
theorem dX0_release_31 : decode cX0_release 31 = .ok (.isub, 1) := by decide +kernel
theorem dX0_release_32 : decode cX0_release 32 = .ok (.iaload, 1) := by decide +kernel
theorem dX0_release_33 : decode cX0_release 33 = .ok (.invokestatic 44, 3) := by decide +kernel
theorem dX0_release_36 : decode cX0_release 36 = .ok (.iload_n 1, 1) := by decide +kernel
theorem dX0_release_37 : decode cX0_release 37 = .ok (.if_icmp .lt 32, 3) := by decide +kernel
theorem dX0_release_40 : decode cX0_release 40 = .ok (.aload_n 0, 1) := by decide +kernel
theorem dX0_release_41 : decode cX0_release 41 = .ok (.dup, 1) := by decide +kernel
theorem dX0_release_42 : decode cX0_release 42 = .ok (.getfield 21, 3) := by decide +kernel
theorem dX0_release_45 : decode cX0_release 45 = .ok (.iconst 1, 1) := by decide +kernel
theorem dX0_release_46 : decode cX0_release 46 = .ok (.isub, 1) := by decide +kernel
theorem dX0_release_47 : decode cX0_release 47 = .ok (.putfield 21, 3) := by decide +kernel
theorem dX0_release_50 : decode cX0_release 50 = .ok (.aload_n 0, 1) := by decide +kernel
theorem dX0_release_51 : decode cX0_release 51 = .ok (.getfield 17, 3) := by decide +kernel
theorem dX0_release_54 : decode cX0_release 54 = .ok (.aload_n 0, 1) := by decide +kernel
theorem dX0_release_55 : decode cX0_release 55 = .ok (.getfield 9, 3) := by decide +kernel
theorem dX0_release_58 : decode cX0_release 58 = .ok (.aload_n 0, 1) := by decide +kernel
theorem dX0_release_59 : decode cX0_release 59 = .ok (.getfield 21, 3) := by decide +kernel
theorem dX0_release_62 : decode cX0_release 62 = .ok (.iaload, 1) := by decide +kernel
theorem dX0_release_63 : decode cX0_release 63 = .ok (.invokevirtual 74, 3) := by decide +kernel
theorem dX0_release_66 : decode cX0_release 66 = .ok (.goto (-66), 3) := by decide +kernel
theorem dX0_release_69 : decode cX0_release 69 = .ok (.return_, 1) := by decide +kernel
def g_X0_release_0 (t0 : Nat)  : Nat → Int32 → zH → Option zH
  | 0, _, _ => none
  | n + 1, x1, h => if (h.1 t0 3) ≤ 0 then (some h) else (zgu (zin ((h.1 t0 3) - 1) 32) <| if (h.1 (zR t0 2) (zx ((h.1 t0 3) - 1))) = 4 then (some h) else (zgu (zin ((h.1 t0 3) - 1) 32) <| (g_X0_rank h (h.1 (zR t0 2) (zx ((h.1 t0 3) - 1)))).bind fun v_5 => if v_5 < x1 then (some h) else (zlet (zpi h t0 3 ((h.1 t0 3) - 1)) fun h_7 => zgu (zin (h_7.1 t0 3) 32) <| (g_X1_addToken h_7 (zR t0 1) (h_7.1 (zR t0 2) (zx (h_7.1 t0 3)))).bind fun v_9 => g_X0_release_0 t0 n x1 v_9)))
def g_X0_release (h : zH) (t0 : Nat) (x1 : Int32) : Option zH := g_X0_release_0 t0 zfu x1 h
set_option maxRecDepth 100000 in
set_option maxHeartbeats 4000000 in
theorem b_X0_release_0 {K : zK} {G : zG} (hK : zC K G cX0_release RX0 2 1 21 none) {t0 : Nat} (ht0 : zT t0 = (0, 0)) {r : zH} (hE : zE K G (none) r) : ∀ (n : Nat) (x1 : Int32) (h : zH), g_X0_release_0 t0 n x1 h = some r → zW K G 2 0 [(0, .ref (G.2.2.2 t0)), (1, .int x1)] [] h := by
  intro n
  induction n with
  | zero => intro x1 h hg; exact nomatch (show none = some r from hg)
  | succ n ih =>
    intro x1 h hg
    rw [g_X0_release_0] at hg
    refine z_aload_n (pc := 0) hK 0 dX0_release_0 rfl (z_getI (pc := 1) hK f_X0_21_0 ht0 dX0_release_1 (z_if_le (pc := 4) hK 69 dX0_release_4 (by decide) (fun c_1 => ?_) (fun c_1 => ?_)))
    · rw [if_pos c_1] at hg
      exact z_vretE (pc := 69) hK hE hg dX0_release_69
    · rw [if_neg c_1] at hg
      obtain ⟨c_2, hg⟩ := zgu_some hg
      refine z_aload_n (pc := 7) hK 0 dX0_release_7 rfl (z_getR (pc := 8) hK f_X0_9_0 ht0 dX0_release_8 (z_aload_n (pc := 11) hK 0 dX0_release_11 rfl (z_getI (pc := 12) hK f_X0_21_0 ht0 dX0_release_12 (z_iconst (pc := 15) hK dX0_release_15 zc_i1 (z_isub (pc := 16) hK dX0_release_16 (z_iald (pc := 17) hK (zt_0_2 ht0) c_2 dX0_release_17 (z_iconst (pc := 18) hK dX0_release_18 zc_i4 (z_icmp_eq (pc := 19) hK 69 dX0_release_19 (by decide) (fun c_3 => ?_) (fun c_3 => ?_)))))))))
      · rw [if_pos c_3] at hg
        exact z_vretE (pc := 69) hK hE hg dX0_release_69
      · rw [if_neg c_3] at hg
        obtain ⟨c_4, hg⟩ := zgu_some hg
        obtain ⟨v_5, qv_5, hg⟩ := zbind_some hg
        refine z_aload_n (pc := 22) hK 0 dX0_release_22 rfl (z_getR (pc := 23) hK f_X0_9_0 ht0 dX0_release_23 (z_aload_n (pc := 26) hK 0 dX0_release_26 rfl (z_getI (pc := 27) hK f_X0_21_0 ht0 dX0_release_27 (z_iconst (pc := 30) hK dX0_release_30 zc_i1 (z_isub (pc := 31) hK dX0_release_31 (z_iald (pc := 32) hK (zt_0_2 ht0) c_4 dX0_release_32 (z_callSi (pc := 33) hK [.int (h.1 (zR t0 2) (zx ((h.1 t0 3) - 1)))] (m_X0_rank (zC_D hK) qv_5) ss_X0_rank q_793 rfl [] rfl (Nat.le_of_ble_eq_true rfl) ⟨by decide, by decide⟩ dX0_release_33 (z_iload_n (pc := 36) hK 1 dX0_release_36 rfl (z_icmp_lt (pc := 37) hK 69 dX0_release_37 (by decide) (fun c_6 => ?_) (fun c_6 => ?_))))))))))
        · rw [if_pos c_6] at hg
          exact z_vretE (pc := 69) hK hE hg dX0_release_69
        · rw [if_neg c_6] at hg
          obtain ⟨h_7, eh_7, hg⟩ := zlet_some hg
          obtain ⟨c_8, hg⟩ := zgu_some hg
          obtain ⟨v_9, qv_9, hg⟩ := zbind_some hg
          exact z_aload_n (pc := 40) hK 0 dX0_release_40 rfl (z_dup (pc := 41) hK dX0_release_41 rfl (z_getI (pc := 42) hK f_X0_21_0 ht0 dX0_release_42 (z_iconst (pc := 45) hK dX0_release_45 zc_i1 (z_isub (pc := 46) hK dX0_release_46 (z_putI (pc := 47) hK f_X0_21_0 fp_0_3 ht0 dX0_release_47 (z_nameH eh_7 (z_aload_n (pc := 50) hK 0 dX0_release_50 rfl (z_getR (pc := 51) hK f_X0_17_0 ht0 dX0_release_51 (z_aload_n (pc := 54) hK 0 dX0_release_54 rfl (z_getR (pc := 55) hK f_X0_9_0 ht0 dX0_release_55 (z_aload_n (pc := 58) hK 0 dX0_release_58 rfl (z_getI (pc := 59) hK f_X0_21_0 ht0 dX0_release_59 (z_iald (pc := 62) hK (zt_0_2 ht0) c_8 dX0_release_62 (z_callVv (pc := 63) hK [.int (h_7.1 (zR t0 2) (zx (h_7.1 t0 3)))] (m_X1_addToken (zC_D hK) (zt_0_1 ht0) qv_9) sv_X1_addToken q_788 (zt_0_1 ht0) rfl [] rfl (Nat.le_of_ble_eq_true rfl) ⟨by decide, by decide⟩ dX0_release_63 (z_goto (pc := 66) hK 0 dX0_release_66 (by decide) (zsub (lv' := [(0, .ref (G.2.2.2 t0)), (1, .int x1)]) [0, 1] rfl (ih x1 v_9 hg)))))))))))))))))
set_option maxRecDepth 100000 in
set_option maxHeartbeats 4000000 in
theorem b_X0_release {K : zK} {G : zG} (hK : zC K G cX0_release RX0 2 1 21 none) {h : zH} {t0 : Nat} {x1 : Int32} (ht0 : zT t0 = (0, 0)) {r : zH} (hE : zE K G (none) r) (hg : g_X0_release h t0 x1 = some r) : zW K G 2 0 [(0, .ref (G.2.2.2 t0)), (1, .int x1)] [] h := by
  rw [g_X0_release] at hg
  exact zsub (lv' := [(0, .ref (G.2.2.2 t0)), (1, .int x1)]) [0, 1] rfl (b_X0_release_0 hK ht0 hE zfu x1 h hg)
theorem m_X0_release {l : Launch} {G : zG} (hG : zD G) {h : zH} {t0 : Nat} {x1 : Int32} (ht0 : zT t0 = (0, 0)) {r : zH} (hg : g_X0_release h t0 x1 = some r) : zM l G yX0_release cX0_release 2 none 1 21 [.ref (G.2.2.2 t0), .int x1] h (none) r :=
  zM_of hG pn_X0 (Nat.le_of_ble_eq_true rfl) (fun K _ hK hE => b_X0_release hK ht0 hE hg)
theorem dX0_takeOperator_0 : decode cX0_takeOperator 0 = .ok (.aload_n 0, 1) := by decide +kernel
theorem dX0_takeOperator_1 : decode cX0_takeOperator 1 = .ok (.getfield 13, 3) := by decide +kernel
theorem dX0_takeOperator_4 : decode cX0_takeOperator 4 = .ok (.getfield 41, 3) := by decide +kernel
theorem dX0_takeOperator_7 : decode cX0_takeOperator 7 = .ok (.invokestatic 44, 3) := by decide +kernel
theorem dX0_takeOperator_10 : decode cX0_takeOperator 10 = .ok (.istore_n 1, 1) := by decide +kernel
theorem dX0_takeOperator_11 : decode cX0_takeOperator 11 = .ok (.iload_n 1, 1) := by decide +kernel
theorem dX0_takeOperator_12 : decode cX0_takeOperator 12 = .ok (.iconst 2, 1) := by decide +kernel
theorem dX0_takeOperator_13 : decode cX0_takeOperator 13 = .ok (.if_icmp .ne 35, 3) := by decide +kernel
theorem dX0_takeOperator_16 : decode cX0_takeOperator 16 = .ok (.aload_n 0, 1) := by decide +kernel
theorem dX0_takeOperator_17 : decode cX0_takeOperator 17 = .ok (.iconst 3, 1) := by decide +kernel
theorem dX0_takeOperator_18 : decode cX0_takeOperator 18 = .ok (.invokevirtual 54, 3) := by decide +kernel
theorem dX0_takeOperator_21 : decode cX0_takeOperator 21 = .ok (.aload_n 0, 1) := by decide +kernel
theorem dX0_takeOperator_22 : decode cX0_takeOperator 22 = .ok (.getfield 21, 3) := by decide +kernel
theorem dX0_takeOperator_25 : decode cX0_takeOperator 25 = .ok (.ifCond .le 28, 3) := by decide +kernel
theorem dX0_takeOperator_28 : decode cX0_takeOperator 28 = .ok (.aload_n 0, 1) := by decide +kernel
theorem dX0_takeOperator_29 : decode cX0_takeOperator 29 = .ok (.getfield 9, 3) := by decide +kernel
theorem dX0_takeOperator_32 : decode cX0_takeOperator 32 = .ok (.aload_n 0, 1) := by decide +kernel
theorem dX0_takeOperator_33 : decode cX0_takeOperator 33 = .ok (.getfield 21, 3) := by decide +kernel
theorem dX0_takeOperator_36 : decode cX0_takeOperator 36 = .ok (.iconst 1, 1) := by decide +kernel
theorem dX0_takeOperator_37 : decode cX0_takeOperator 37 = .ok (.isub, 1) := by decide +kernel
theorem dX0_takeOperator_38 : decode cX0_takeOperator 38 = .ok (.iaload, 1) := by decide +kernel
theorem dX0_takeOperator_39 : decode cX0_takeOperator 39 = .ok (.invokestatic 44, 3) := by decide +kernel
theorem dX0_takeOperator_42 : decode cX0_takeOperator 42 = .ok (.iconst 2, 1) := by decide +kernel
theorem dX0_takeOperator_43 : decode cX0_takeOperator 43 = .ok (.if_icmp .ne 10, 3) := by decide +kernel
theorem dX0_takeOperator_46 : decode cX0_takeOperator 46 = .ok (.iconst 1, 1) := by decide +kernel
theorem dX0_takeOperator_47 : decode cX0_takeOperator 47 = .ok (.ireturn, 1) := by decide +kernel
theorem dX0_takeOperator_48 : decode cX0_takeOperator 48 = .ok (.aload_n 0, 1) := by decide +kernel
theorem dX0_takeOperator_49 : decode cX0_takeOperator 49 = .ok (.iload_n 1, 1) := by decide +kernel
theorem dX0_takeOperator_50 : decode cX0_takeOperator 50 = .ok (.invokevirtual 54, 3) := by decide +kernel
theorem dX0_takeOperator_53 : decode cX0_takeOperator 53 = .ok (.aload_n 0, 1) := by decide +kernel
theorem dX0_takeOperator_54 : decode cX0_takeOperator 54 = .ok (.aload_n 0, 1) := by decide +kernel
theorem dX0_takeOperator_55 : decode cX0_takeOperator 55 = .ok (.getfield 13, 3) := by decide +kernel
theorem dX0_takeOperator_58 : decode cX0_takeOperator 58 = .ok (.getfield 41, 3) := by decide +kernel
theorem dX0_takeOperator_61 : decode cX0_takeOperator 61 = .ok (.invokevirtual 63, 3) := by decide +kernel
theorem dX0_takeOperator_64 : decode cX0_takeOperator 64 = .ok (.aload_n 0, 1) := by decide +kernel
theorem dX0_takeOperator_65 : decode cX0_takeOperator 65 = .ok (.iconst 1, 1) := by decide +kernel
theorem dX0_takeOperator_66 : decode cX0_takeOperator 66 = .ok (.putfield 31, 3) := by decide +kernel
theorem dX0_takeOperator_69 : decode cX0_takeOperator 69 = .ok (.iconst 0, 1) := by decide +kernel
theorem dX0_takeOperator_70 : decode cX0_takeOperator 70 = .ok (.ireturn, 1) := by decide +kernel
def g_X0_takeOperator_53 (t0 : Nat)  (h : zH) : Option (Int32 × zH) := (g_X0_letWait h t0 (h.1 (zR t0 0) 2)).bind fun v_9 => zlet (zpi v_9 t0 6 1) fun h_10 => some (0, h_10)
def g_X0_takeOperator (h : zH) (t0 : Nat) : Option (Int32 × zH) := (g_X0_rank h (h.1 (zR t0 0) 2)).bind fun v_1 => if v_1 = 2 then ((g_X0_release h t0 3).bind fun v_4 => if (v_4.1 t0 3) ≤ 0 then (g_X0_takeOperator_53 t0 v_4) else (zgu (zin ((v_4.1 t0 3) - 1) 32) <| (g_X0_rank v_4 (v_4.1 (zR t0 2) (zx ((v_4.1 t0 3) - 1)))).bind fun v_7 => if v_7 = 2 then (some (1, v_4)) else (g_X0_takeOperator_53 t0 v_4))) else ((g_X0_release h t0 v_1).bind fun v_3 => g_X0_takeOperator_53 t0 v_3)
set_option maxRecDepth 100000 in
set_option maxHeartbeats 4000000 in
theorem b_X0_takeOperator_53 {K : zK} {G : zG} (hK : zC K G cX0_takeOperator RX0 2 2 42 (some .int)) {t0 : Nat} (ht0 : zT t0 = (0, 0)) {r : Int32 × zH} (hE : zE K G (some (.int r.1)) r.2) (h : zH) (hg : g_X0_takeOperator_53 t0 h = some r) : zW K G 2 53 [(0, .ref (G.2.2.2 t0))] [] h := by
  rw [g_X0_takeOperator_53] at hg
  obtain ⟨v_9, qv_9, hg⟩ := zbind_some hg
  obtain ⟨h_10, eh_10, hg⟩ := zlet_some hg
  exact z_aload_n (pc := 53) hK 0 dX0_takeOperator_53 rfl (z_aload_n (pc := 54) hK 0 dX0_takeOperator_54 rfl (z_getR (pc := 55) hK f_X0_13_0 ht0 dX0_takeOperator_55 (z_getI (pc := 58) hK f_X0_41_7 (zt_0_0 ht0) dX0_takeOperator_58 (z_callVv (pc := 61) hK [.int (h.1 (zR t0 0) 2)] (m_X0_letWait (zC_D hK) ht0 qv_9) sv_X0_letWait q_776 ht0 rfl [] rfl (Nat.le_of_ble_eq_true rfl) ⟨by decide, by decide⟩ dX0_takeOperator_61 (z_aload_n (pc := 64) hK 0 dX0_takeOperator_64 rfl (z_iconst (pc := 65) hK dX0_takeOperator_65 zc_i1 (z_putZ (pc := 66) hK f_X0_31_0 fp_0_6 rfl ht0 dX0_takeOperator_66 (z_nameH eh_10 (z_iconst (pc := 69) hK dX0_takeOperator_69 zc_i0 (z_iretE (pc := 70) hK hE hg dX0_takeOperator_70))))))))))
set_option maxRecDepth 100000 in
set_option maxHeartbeats 4000000 in
theorem b_X0_takeOperator {K : zK} {G : zG} (hK : zC K G cX0_takeOperator RX0 2 2 42 (some .int)) {h : zH} {t0 : Nat} (ht0 : zT t0 = (0, 0)) {r : Int32 × zH} (hE : zE K G (some (.int r.1)) r.2) (hg : g_X0_takeOperator h t0 = some r) : zW K G 2 0 [(0, .ref (G.2.2.2 t0))] [] h := by
  rw [g_X0_takeOperator] at hg
  obtain ⟨v_1, qv_1, hg⟩ := zbind_some hg
  refine z_aload_n (pc := 0) hK 0 dX0_takeOperator_0 rfl (z_getR (pc := 1) hK f_X0_13_0 ht0 dX0_takeOperator_1 (z_getI (pc := 4) hK f_X0_41_7 (zt_0_0 ht0) dX0_takeOperator_4 (z_callSi (pc := 7) hK [.int (h.1 (zR t0 0) 2)] (m_X0_rank (zC_D hK) qv_1) ss_X0_rank q_793 rfl [] rfl (Nat.le_of_ble_eq_true rfl) ⟨by decide, by decide⟩ dX0_takeOperator_7 (z_istore_n (pc := 10) hK (lv' := [(1, .int v_1), (0, .ref (G.2.2.2 t0))]) dX0_takeOperator_10 (by decide) rfl (z_iload_n (pc := 11) hK 0 dX0_takeOperator_11 rfl (z_iconst (pc := 12) hK dX0_takeOperator_12 zc_i2 (z_icmp_ne (pc := 13) hK 48 dX0_takeOperator_13 (by decide) (fun c_2 => ?_) (fun c_2 => ?_))))))))
  · rw [if_neg c_2] at hg
    obtain ⟨v_3, qv_3, hg⟩ := zbind_some hg
    exact z_aload_n (pc := 48) hK 1 dX0_takeOperator_48 rfl (z_iload_n (pc := 49) hK 0 dX0_takeOperator_49 rfl (z_callVv (pc := 50) hK [.int v_1] (m_X0_release (zC_D hK) ht0 qv_3) sv_X0_release q_800 ht0 rfl [] rfl (Nat.le_of_ble_eq_true rfl) ⟨by decide, by decide⟩ dX0_takeOperator_50 (zsub (lv' := [(0, .ref (G.2.2.2 t0))]) [1] rfl (b_X0_takeOperator_53 hK ht0 hE v_3 hg))))
  · rw [if_pos c_2] at hg
    obtain ⟨v_4, qv_4, hg⟩ := zbind_some hg
    refine z_aload_n (pc := 16) hK 1 dX0_takeOperator_16 rfl (z_iconst (pc := 17) hK dX0_takeOperator_17 zc_i3 (z_callVv (pc := 18) hK [.int 3] (m_X0_release (zC_D hK) ht0 qv_4) sv_X0_release q_800 ht0 rfl [] rfl (Nat.le_of_ble_eq_true rfl) ⟨by decide, by decide⟩ dX0_takeOperator_18 (z_aload_n (pc := 21) hK 1 dX0_takeOperator_21 rfl (z_getI (pc := 22) hK f_X0_21_0 ht0 dX0_takeOperator_22 (z_if_le (pc := 25) hK 53 dX0_takeOperator_25 (by decide) (fun c_5 => ?_) (fun c_5 => ?_))))))
    · rw [if_pos c_5] at hg
      exact zsub (lv' := [(0, .ref (G.2.2.2 t0))]) [1] rfl (b_X0_takeOperator_53 hK ht0 hE v_4 hg)
    · rw [if_neg c_5] at hg
      obtain ⟨c_6, hg⟩ := zgu_some hg
      obtain ⟨v_7, qv_7, hg⟩ := zbind_some hg
      refine z_aload_n (pc := 28) hK 1 dX0_takeOperator_28 rfl (z_getR (pc := 29) hK f_X0_9_0 ht0 dX0_takeOperator_29 (z_aload_n (pc := 32) hK 1 dX0_takeOperator_32 rfl (z_getI (pc := 33) hK f_X0_21_0 ht0 dX0_takeOperator_33 (z_iconst (pc := 36) hK dX0_takeOperator_36 zc_i1 (z_isub (pc := 37) hK dX0_takeOperator_37 (z_iald (pc := 38) hK (zt_0_2 ht0) c_6 dX0_takeOperator_38 (z_callSi (pc := 39) hK [.int (v_4.1 (zR t0 2) (zx ((v_4.1 t0 3) - 1)))] (m_X0_rank (zC_D hK) qv_7) ss_X0_rank q_793 rfl [] rfl (Nat.le_of_ble_eq_true rfl) ⟨by decide, by decide⟩ dX0_takeOperator_39 (z_iconst (pc := 42) hK dX0_takeOperator_42 zc_i2 (z_icmp_ne (pc := 43) hK 53 dX0_takeOperator_43 (by decide) (fun c_8 => ?_) (fun c_8 => ?_))))))))))
      · rw [if_neg c_8] at hg
        exact zsub (lv' := [(0, .ref (G.2.2.2 t0))]) [1] rfl (b_X0_takeOperator_53 hK ht0 hE v_4 hg)
      · rw [if_pos c_8] at hg
        exact z_iconst (pc := 46) hK dX0_takeOperator_46 zc_i1 (z_iretE (pc := 47) hK hE hg dX0_takeOperator_47)
theorem m_X0_takeOperator {l : Launch} {G : zG} (hG : zD G) {h : zH} {t0 : Nat} (ht0 : zT t0 = (0, 0)) {r : Int32 × zH} (hg : g_X0_takeOperator h t0 = some r) : zM l G yX0_takeOperator cX0_takeOperator 2 (some .int) 2 42 [.ref (G.2.2.2 t0)] h (some (.int r.1)) r.2 :=
  zM_of hG pn_X0 (Nat.le_of_ble_eq_true rfl) (fun K _ hK hE => b_X0_takeOperator hK ht0 hE hg)
theorem dX0_close_0 : decode cX0_close 0 = .ok (.aload_n 0, 1) := by decide +kernel
theorem dX0_close_1 : decode cX0_close 1 = .ok (.iconst 0, 1) := by decide +kernel
theorem dX0_close_2 : decode cX0_close 2 = .ok (.invokevirtual 54, 3) := by decide +kernel
theorem dX0_close_5 : decode cX0_close 5 = .ok (.aload_n 0, 1) := by decide +kernel
theorem dX0_close_6 : decode cX0_close 6 = .ok (.getfield 21, 3) := by decide +kernel
theorem dX0_close_9 : decode cX0_close 9 = .ok (.ifCond .le 13, 3) := by decide +kernel
theorem dX0_close_12 : decode cX0_close 12 = .ok (.aload_n 0, 1) := by decide +kernel
theorem dX0_close_13 : decode cX0_close 13 = .ok (.dup, 1) := by decide +kernel
theorem dX0_close_14 : decode cX0_close 14 = .ok (.getfield 21, 3) := by decide +kernel
theorem dX0_close_17 : decode cX0_close 17 = .ok (.iconst 1, 1) := by decide +kernel
theorem dX0_close_18 : decode cX0_close 18 = .ok (.isub, 1) := by decide +kernel
theorem dX0_close_19 : decode cX0_close 19 = .ok (.putfield 21, 3) := by decide +kernel
theorem dX0_close_22 : decode cX0_close 22 = .ok (.aload_n 0, 1) := by decide +kernel
theorem dX0_close_23 : decode cX0_close 23 = .ok (.dup, 1) := by decide +kernel
theorem dX0_close_24 : decode cX0_close 24 = .ok (.getfield 25, 3) := by decide +kernel
theorem dX0_close_27 : decode cX0_close 27 = .ok (.iconst 1, 1) := by decide +kernel
theorem dX0_close_28 : decode cX0_close 28 = .ok (.isub, 1) := by decide +kernel
theorem dX0_close_29 : decode cX0_close 29 = .ok (.putfield 25, 3) := by decide +kernel
theorem dX0_close_32 : decode cX0_close 32 = .ok (.aload_n 0, 1) := by decide +kernel
theorem dX0_close_33 : decode cX0_close 33 = .ok (.dup, 1) := by decide +kernel
theorem dX0_close_34 : decode cX0_close 34 = .ok (.getfield 28, 3) := by decide +kernel
theorem dX0_close_37 : decode cX0_close 37 = .ok (.iconst 1, 1) := by decide +kernel
theorem dX0_close_38 : decode cX0_close 38 = .ok (.isub, 1) := by decide +kernel
theorem dX0_close_39 : decode cX0_close 39 = .ok (.putfield 28, 3) := by decide +kernel
theorem dX0_close_42 : decode cX0_close 42 = .ok (.aload_n 0, 1) := by decide +kernel
theorem dX0_close_43 : decode cX0_close 43 = .ok (.invokevirtual 77, 3) := by decide +kernel
theorem dX0_close_46 : decode cX0_close 46 = .ok (.return_, 1) := by decide +kernel
def g_X0_close_22 (t0 : Nat)  (h : zH) : Option zH := zlet (zpi h t0 4 ((h.1 t0 4) - 1)) fun h_4 => zlet (zpi h_4 t0 5 ((h_4.1 t0 5) - 1)) fun h_5 => (g_X0_endPart h_5 t0).bind fun v_6 => some v_6
def g_X0_close (h : zH) (t0 : Nat) : Option zH := (g_X0_release h t0 0).bind fun v_1 => if (v_1.1 t0 3) ≤ 0 then (g_X0_close_22 t0 v_1) else (zlet (zpi v_1 t0 3 ((v_1.1 t0 3) - 1)) fun h_3 => g_X0_close_22 t0 h_3)
set_option maxRecDepth 100000 in
set_option maxHeartbeats 4000000 in
theorem b_X0_close_22 {K : zK} {G : zG} (hK : zC K G cX0_close RX0 1 2 42 none) {t0 : Nat} (ht0 : zT t0 = (0, 0)) {r : zH} (hE : zE K G (none) r) (h : zH) (hg : g_X0_close_22 t0 h = some r) : zW K G 1 22 [(0, .ref (G.2.2.2 t0))] [] h := by
  rw [g_X0_close_22] at hg
  obtain ⟨h_4, eh_4, hg⟩ := zlet_some hg
  obtain ⟨h_5, eh_5, hg⟩ := zlet_some hg
  obtain ⟨v_6, qv_6, hg⟩ := zbind_some hg
  exact z_aload_n (pc := 22) hK 0 dX0_close_22 rfl (z_dup (pc := 23) hK dX0_close_23 rfl (z_getI (pc := 24) hK f_X0_25_0 ht0 dX0_close_24 (z_iconst (pc := 27) hK dX0_close_27 zc_i1 (z_isub (pc := 28) hK dX0_close_28 (z_putI (pc := 29) hK f_X0_25_0 fp_0_4 ht0 dX0_close_29 (z_nameH eh_4 (z_aload_n (pc := 32) hK 0 dX0_close_32 rfl (z_dup (pc := 33) hK dX0_close_33 rfl (z_getI (pc := 34) hK f_X0_28_0 ht0 dX0_close_34 (z_iconst (pc := 37) hK dX0_close_37 zc_i1 (z_isub (pc := 38) hK dX0_close_38 (z_putI (pc := 39) hK f_X0_28_0 fp_0_5 ht0 dX0_close_39 (z_nameH eh_5 (z_aload_n (pc := 42) hK 0 dX0_close_42 rfl (z_callVv (pc := 43) hK [] (m_X0_endPart (zC_D hK) ht0 qv_6) sv_X0_endPart q_789 ht0 rfl [] rfl (Nat.le_of_ble_eq_true rfl) ⟨by decide, by decide⟩ dX0_close_43 (z_vretE (pc := 46) hK hE hg dX0_close_46))))))))))))))))
set_option maxRecDepth 100000 in
set_option maxHeartbeats 4000000 in
theorem b_X0_close {K : zK} {G : zG} (hK : zC K G cX0_close RX0 1 2 42 none) {h : zH} {t0 : Nat} (ht0 : zT t0 = (0, 0)) {r : zH} (hE : zE K G (none) r) (hg : g_X0_close h t0 = some r) : zW K G 1 0 [(0, .ref (G.2.2.2 t0))] [] h := by
  rw [g_X0_close] at hg
  obtain ⟨v_1, qv_1, hg⟩ := zbind_some hg
  refine z_aload_n (pc := 0) hK 0 dX0_close_0 rfl (z_iconst (pc := 1) hK dX0_close_1 zc_i0 (z_callVv (pc := 2) hK [.int 0] (m_X0_release (zC_D hK) ht0 qv_1) sv_X0_release q_800 ht0 rfl [] rfl (Nat.le_of_ble_eq_true rfl) ⟨by decide, by decide⟩ dX0_close_2 (z_aload_n (pc := 5) hK 0 dX0_close_5 rfl (z_getI (pc := 6) hK f_X0_21_0 ht0 dX0_close_6 (z_if_le (pc := 9) hK 22 dX0_close_9 (by decide) (fun c_2 => ?_) (fun c_2 => ?_))))))
  · rw [if_pos c_2] at hg
    exact zsub (lv' := [(0, .ref (G.2.2.2 t0))]) [0] rfl (b_X0_close_22 hK ht0 hE v_1 hg)
  · rw [if_neg c_2] at hg
    obtain ⟨h_3, eh_3, hg⟩ := zlet_some hg
    exact z_aload_n (pc := 12) hK 0 dX0_close_12 rfl (z_dup (pc := 13) hK dX0_close_13 rfl (z_getI (pc := 14) hK f_X0_21_0 ht0 dX0_close_14 (z_iconst (pc := 17) hK dX0_close_17 zc_i1 (z_isub (pc := 18) hK dX0_close_18 (z_putI (pc := 19) hK f_X0_21_0 fp_0_3 ht0 dX0_close_19 (z_nameH eh_3 (zsub (lv' := [(0, .ref (G.2.2.2 t0))]) [0] rfl (b_X0_close_22 hK ht0 hE h_3 hg))))))))
theorem m_X0_close {l : Launch} {G : zG} (hG : zD G) {h : zH} {t0 : Nat} (ht0 : zT t0 = (0, 0)) {r : zH} (hg : g_X0_close h t0 = some r) : zM l G yX0_close cX0_close 1 none 2 42 [.ref (G.2.2.2 t0)] h (none) r :=
  zM_of hG pn_X0 (Nat.le_of_ble_eq_true rfl) (fun K _ hK hE => b_X0_close hK ht0 hE hg)
theorem dX8_isBlank_0 : decode cX8_isBlank 0 = .ok (.iload_n 0, 1) := by decide +kernel
theorem dX8_isBlank_1 : decode cX8_isBlank 1 = .ok (.bipush 10, 2) := by decide +kernel
theorem dX8_isBlank_3 : decode cX8_isBlank 3 = .ok (.if_icmp .eq 9, 3) := by decide +kernel
theorem dX8_isBlank_6 : decode cX8_isBlank 6 = .ok (.iload_n 0, 1) := by decide +kernel
theorem dX8_isBlank_7 : decode cX8_isBlank 7 = .ok (.bipush 32, 2) := by decide +kernel
theorem dX8_isBlank_9 : decode cX8_isBlank 9 = .ok (.if_icmp .ne 7, 3) := by decide +kernel
theorem dX8_isBlank_12 : decode cX8_isBlank 12 = .ok (.iconst 1, 1) := by decide +kernel
theorem dX8_isBlank_13 : decode cX8_isBlank 13 = .ok (.goto 4, 3) := by decide +kernel
theorem dX8_isBlank_16 : decode cX8_isBlank 16 = .ok (.iconst 0, 1) := by decide +kernel
theorem dX8_isBlank_17 : decode cX8_isBlank 17 = .ok (.ireturn, 1) := by decide +kernel
def g_X8_isBlank (h : zH) (x0 : Int32) : Option Bool := if x0 = 10 then (some true) else (if x0 = 32 then (some true) else (some false))
set_option maxRecDepth 100000 in
set_option maxHeartbeats 4000000 in
theorem b_X8_isBlank {K : zK} {G : zG} (hK : zC K G cX8_isBlank RX8 1 0 0 (some .boolean)) {h : zH} {x0 : Int32}  {r : Bool} (hE : zE K G (some (.int (zb r))) h) (hg : g_X8_isBlank h x0 = some r) : zW K G 1 0 [(0, .int x0)] [] h := by
  rw [g_X8_isBlank] at hg
  refine z_iload_n (pc := 0) hK 0 dX8_isBlank_0 rfl (z_bipush (pc := 1) hK dX8_isBlank_1 zc_b10 (z_icmp_eq (pc := 3) hK 12 dX8_isBlank_3 (by decide) (fun c_1 => ?_) (fun c_1 => ?_)))
  · rw [if_pos c_1] at hg
    exact z_iconst (pc := 12) hK dX8_isBlank_12 zc_i1 (z_goto (pc := 13) hK 17 dX8_isBlank_13 (by decide) (z_zretP (pc := 17) hK rfl hE hg dX8_isBlank_17))
  · rw [if_neg c_1] at hg
    refine z_iload_n (pc := 6) hK 0 dX8_isBlank_6 rfl (z_bipush (pc := 7) hK dX8_isBlank_7 zc_b32 (z_icmp_ne (pc := 9) hK 16 dX8_isBlank_9 (by decide) (fun c_2 => ?_) (fun c_2 => ?_)))
    · rw [if_neg c_2] at hg
      exact z_iconst (pc := 16) hK dX8_isBlank_16 zc_i0 (z_zretP (pc := 17) hK rfl hE hg dX8_isBlank_17)
    · rw [if_pos c_2] at hg
      exact z_iconst (pc := 12) hK dX8_isBlank_12 zc_i1 (z_goto (pc := 13) hK 17 dX8_isBlank_13 (by decide) (z_zretP (pc := 17) hK rfl hE hg dX8_isBlank_17))
theorem m_X8_isBlank {l : Launch} {G : zG} (hG : zD G) {h : zH} {x0 : Int32}  {r : Bool} (hg : g_X8_isBlank h x0 = some r) : zM l G yX8_isBlank cX8_isBlank 1 (some .boolean) 0 0 [.int x0] h (some (.int (zb r))) h :=
  zM_of hG pn_X8 (Nat.le_of_ble_eq_true rfl) (fun K _ hK hE => b_X8_isBlank hK  hE hg)
theorem dX8_isLetter_0 : decode cX8_isLetter 0 = .ok (.iload_n 0, 1) := by decide +kernel
theorem dX8_isLetter_1 : decode cX8_isLetter 1 = .ok (.bipush 97, 2) := by decide +kernel
theorem dX8_isLetter_3 : decode cX8_isLetter 3 = .ok (.if_icmp .lt 13, 3) := by decide +kernel
theorem dX8_isLetter_6 : decode cX8_isLetter 6 = .ok (.iload_n 0, 1) := by decide +kernel
theorem dX8_isLetter_7 : decode cX8_isLetter 7 = .ok (.bipush 122, 2) := by decide +kernel
theorem dX8_isLetter_9 : decode cX8_isLetter 9 = .ok (.if_icmp .gt 7, 3) := by decide +kernel
theorem dX8_isLetter_12 : decode cX8_isLetter 12 = .ok (.iconst 1, 1) := by decide +kernel
theorem dX8_isLetter_13 : decode cX8_isLetter 13 = .ok (.goto 4, 3) := by decide +kernel
theorem dX8_isLetter_16 : decode cX8_isLetter 16 = .ok (.iconst 0, 1) := by decide +kernel
theorem dX8_isLetter_17 : decode cX8_isLetter 17 = .ok (.ireturn, 1) := by decide +kernel
def g_X8_isLetter (h : zH) (x0 : Int32) : Option Bool := if x0 < 97 then (some false) else (if 122 < x0 then (some false) else (some true))
set_option maxRecDepth 100000 in
set_option maxHeartbeats 4000000 in
theorem b_X8_isLetter {K : zK} {G : zG} (hK : zC K G cX8_isLetter RX8 1 0 0 (some .boolean)) {h : zH} {x0 : Int32}  {r : Bool} (hE : zE K G (some (.int (zb r))) h) (hg : g_X8_isLetter h x0 = some r) : zW K G 1 0 [(0, .int x0)] [] h := by
  rw [g_X8_isLetter] at hg
  refine z_iload_n (pc := 0) hK 0 dX8_isLetter_0 rfl (z_bipush (pc := 1) hK dX8_isLetter_1 zc_b97 (z_icmp_lt (pc := 3) hK 16 dX8_isLetter_3 (by decide) (fun c_1 => ?_) (fun c_1 => ?_)))
  · rw [if_pos c_1] at hg
    exact z_iconst (pc := 16) hK dX8_isLetter_16 zc_i0 (z_zretP (pc := 17) hK rfl hE hg dX8_isLetter_17)
  · rw [if_neg c_1] at hg
    refine z_iload_n (pc := 6) hK 0 dX8_isLetter_6 rfl (z_bipush (pc := 7) hK dX8_isLetter_7 zc_b122 (z_icmp_gt (pc := 9) hK 16 dX8_isLetter_9 (by decide) (fun c_2 => ?_) (fun c_2 => ?_)))
    · rw [if_pos c_2] at hg
      exact z_iconst (pc := 16) hK dX8_isLetter_16 zc_i0 (z_zretP (pc := 17) hK rfl hE hg dX8_isLetter_17)
    · rw [if_neg c_2] at hg
      exact z_iconst (pc := 12) hK dX8_isLetter_12 zc_i1 (z_goto (pc := 13) hK 17 dX8_isLetter_13 (by decide) (z_zretP (pc := 17) hK rfl hE hg dX8_isLetter_17))
theorem m_X8_isLetter {l : Launch} {G : zG} (hG : zD G) {h : zH} {x0 : Int32}  {r : Bool} (hg : g_X8_isLetter h x0 = some r) : zM l G yX8_isLetter cX8_isLetter 1 (some .boolean) 0 0 [.int x0] h (some (.int (zb r))) h :=
  zM_of hG pn_X8 (Nat.le_of_ble_eq_true rfl) (fun K _ hK hE => b_X8_isLetter hK  hE hg)
theorem dX8_passWord_0 : decode cX8_passWord 0 = .ok (.aload_n 0, 1) := by decide +kernel
theorem dX8_passWord_1 : decode cX8_passWord 1 = .ok (.getfield 17, 3) := by decide +kernel
theorem dX8_passWord_4 : decode cX8_passWord 4 = .ok (.aload_n 0, 1) := by decide +kernel
theorem dX8_passWord_5 : decode cX8_passWord 5 = .ok (.getfield 13, 3) := by decide +kernel
theorem dX8_passWord_8 : decode cX8_passWord 8 = .ok (.if_icmp .ge 31, 3) := by decide +kernel
theorem dX8_passWord_11 : decode cX8_passWord 11 = .ok (.aload_n 0, 1) := by decide +kernel
theorem dX8_passWord_12 : decode cX8_passWord 12 = .ok (.getfield 9, 3) := by decide +kernel
theorem dX8_passWord_15 : decode cX8_passWord 15 = .ok (.aload_n 0, 1) := by decide +kernel
theorem dX8_passWord_16 : decode cX8_passWord 16 = .ok (.getfield 17, 3) := by decide +kernel
theorem dX8_passWord_19 : decode cX8_passWord 19 = .ok (.caload, 1) := by decide +kernel
theorem dX8_passWord_20 : decode cX8_passWord 20 = .ok (.invokestatic 33, 3) := by decide +kernel
theorem dX8_passWord_23 : decode cX8_passWord 23 = .ok (.ifCond .eq 16, 3) := by decide +kernel
theorem dX8_passWord_26 : decode cX8_passWord 26 = .ok (.aload_n 0, 1) := by decide +kernel
theorem dX8_passWord_27 : decode cX8_passWord 27 = .ok (.dup, 1) := by decide +kernel
theorem dX8_passWord_28 : decode cX8_passWord 28 = .ok (.getfield 17, 3) := by decide +kernel
theorem dX8_passWord_31 : decode cX8_passWord 31 = .ok (.iconst 1, 1) := by decide +kernel
theorem dX8_passWord_32 : decode cX8_passWord 32 = .ok (.iadd, 1) := by decide +kernel
theorem dX8_passWord_33 : decode cX8_passWord 33 = .ok (.putfield 17, 3) := by decide +kernel
theorem dX8_passWord_36 : decode cX8_passWord 36 = .ok (.goto (-36), 3) := by decide +kernel
theorem dX8_passWord_39 : decode cX8_passWord 39 = .ok (.return_, 1) := by decide +kernel
def g_X8_passWord_0 (t0 : Nat)  : Nat → zH → Option zH
  | 0, _ => none
  | n + 1, h => if (h.1 t0 1) ≤ (h.1 t0 5) then (some h) else (zgu (zin (h.1 t0 5) 1000) <| (g_X8_isLetter h (h.1 (zR t0 0) (zx (h.1 t0 5)))).bind fun v_3 => if (zb v_3) = 0 then (some h) else (zlet (zpi h t0 5 ((h.1 t0 5) + 1)) fun h_5 => g_X8_passWord_0 t0 n h_5))
def g_X8_passWord (h : zH) (t0 : Nat) : Option zH := g_X8_passWord_0 t0 zfu h
set_option maxRecDepth 100000 in
set_option maxHeartbeats 4000000 in
theorem b_X8_passWord_0 {K : zK} {G : zG} (hK : zC K G cX8_passWord RX8 1 1 20 none) {t0 : Nat} (ht0 : zT t0 = (7, 0)) {r : zH} (hE : zE K G (none) r) : ∀ (n : Nat) (h : zH), g_X8_passWord_0 t0 n h = some r → zW K G 1 0 [(0, .ref (G.2.2.2 t0))] [] h := by
  intro n
  induction n with
  | zero => intro h hg; exact nomatch (show none = some r from hg)
  | succ n ih =>
    intro h hg
    rw [g_X8_passWord_0] at hg
    refine z_aload_n (pc := 0) hK 0 dX8_passWord_0 rfl (z_getI (pc := 1) hK f_X8_17_7 ht0 dX8_passWord_1 (z_aload_n (pc := 4) hK 0 dX8_passWord_4 rfl (z_getI (pc := 5) hK f_X8_13_7 ht0 dX8_passWord_5 (z_icmp_ge (pc := 8) hK 39 dX8_passWord_8 (by decide) (fun c_1 => ?_) (fun c_1 => ?_)))))
    · rw [if_pos c_1] at hg
      exact z_vretE (pc := 39) hK hE hg dX8_passWord_39
    · rw [if_neg c_1] at hg
      obtain ⟨c_2, hg⟩ := zgu_some hg
      obtain ⟨v_3, qv_3, hg⟩ := zbind_some hg
      refine z_aload_n (pc := 11) hK 0 dX8_passWord_11 rfl (z_getR (pc := 12) hK f_X8_9_7 ht0 dX8_passWord_12 (z_aload_n (pc := 15) hK 0 dX8_passWord_15 rfl (z_getI (pc := 16) hK f_X8_17_7 ht0 dX8_passWord_16 (z_cald (pc := 19) hK (zt_7_0 ht0) c_2 dX8_passWord_19 (z_callSi (pc := 20) hK [.int (h.1 (zR t0 0) (zx (h.1 t0 5)))] (m_X8_isLetter (zC_D hK) qv_3) ss_X8_isLetter q_543 rfl [] rfl (Nat.le_of_ble_eq_true rfl) ⟨by decide, by decide⟩ dX8_passWord_20 (z_if_eq (pc := 23) hK 39 dX8_passWord_23 (by decide) (fun c_4 => ?_) (fun c_4 => ?_)))))))
      · rw [if_pos c_4] at hg
        exact z_vretE (pc := 39) hK hE hg dX8_passWord_39
      · rw [if_neg c_4] at hg
        obtain ⟨h_5, eh_5, hg⟩ := zlet_some hg
        exact z_aload_n (pc := 26) hK 0 dX8_passWord_26 rfl (z_dup (pc := 27) hK dX8_passWord_27 rfl (z_getI (pc := 28) hK f_X8_17_7 ht0 dX8_passWord_28 (z_iconst (pc := 31) hK dX8_passWord_31 zc_i1 (z_iadd (pc := 32) hK dX8_passWord_32 (z_putI (pc := 33) hK f_X8_17_7 fp_7_5 ht0 dX8_passWord_33 (z_nameH eh_5 (z_goto (pc := 36) hK 0 dX8_passWord_36 (by decide) (zsub (lv' := [(0, .ref (G.2.2.2 t0))]) [0] rfl (ih h_5 hg)))))))))
set_option maxRecDepth 100000 in
set_option maxHeartbeats 4000000 in
theorem b_X8_passWord {K : zK} {G : zG} (hK : zC K G cX8_passWord RX8 1 1 20 none) {h : zH} {t0 : Nat} (ht0 : zT t0 = (7, 0)) {r : zH} (hE : zE K G (none) r) (hg : g_X8_passWord h t0 = some r) : zW K G 1 0 [(0, .ref (G.2.2.2 t0))] [] h := by
  rw [g_X8_passWord] at hg
  exact zsub (lv' := [(0, .ref (G.2.2.2 t0))]) [0] rfl (b_X8_passWord_0 hK ht0 hE zfu h hg)
theorem m_X8_passWord {l : Launch} {G : zG} (hG : zD G) {h : zH} {t0 : Nat} (ht0 : zT t0 = (7, 0)) {r : zH} (hg : g_X8_passWord h t0 = some r) : zM l G yX8_passWord cX8_passWord 1 none 1 20 [.ref (G.2.2.2 t0)] h (none) r :=
  zM_of hG pn_X8 (Nat.le_of_ble_eq_true rfl) (fun K _ hK hE => b_X8_passWord hK ht0 hE hg)
theorem dJ0_coder_7d493_0 : decode cJ0_coder_7d493 0 = .ok (.getstatic 38, 3) := by decide +kernel
theorem dJ0_coder_7d493_3 : decode cJ0_coder_7d493 3 = .ok (.ifCond .eq 10, 3) := by decide +kernel
theorem dJ0_coder_7d493_6 : decode cJ0_coder_7d493 6 = .ok (.aload_n 0, 1) := by decide +kernel
theorem dJ0_coder_7d493_7 : decode cJ0_coder_7d493 7 = .ok (.getfield 15, 3) := by decide +kernel
theorem dJ0_coder_7d493_10 : decode cJ0_coder_7d493 10 = .ok (.goto 4, 3) := by decide +kernel
theorem dJ0_coder_7d493_14 : decode cJ0_coder_7d493 14 = .ok (.ireturn, 1) := by decide +kernel
def g_J0_coder_7d493 (h : zH) (t0 : Nat) : Option Int32 := some 0
set_option maxRecDepth 100000 in
set_option maxHeartbeats 4000000 in
theorem b_J0_coder_7d493 {K : zK} {G : zG} (hK : zC K G cJ0_coder_7d493 RJ0 1 0 0 (some .byte)) {h : zH} {t0 : Nat} (ht0 : t0 < 2) {r : Int32} (hE : zE K G (some (.int r)) h) (hg : g_J0_coder_7d493 h t0 = some r) : zW K G 1 0 [(0, .ref (zk G t0))] [] h := by
  rw [g_J0_coder_7d493] at hg
  exact z_gsC (pc := 0) hK q_563 dJ0_coder_7d493_0 (z_if_eq (kt := fun c => absurd c (by decide)) (pc := 3) hK 13 dJ0_coder_7d493_3 (by decide) <| fun _ => (z_aload_n (pc := 6) hK 0 dJ0_coder_7d493_6 rfl (z_sgetC (pc := 7) hK ht0 q_1922 dJ0_coder_7d493_7 (z_goto (pc := 10) hK 14 dJ0_coder_7d493_10 (by decide) (z_bretP (pc := 14) hK rfl hE hg dJ0_coder_7d493_14)))))
theorem m_J0_coder_7d493 {l : Launch} {G : zG} (hG : zD G) {h : zH} {t0 : Nat} (ht0 : t0 < 2) {r : Int32} (hg : g_J0_coder_7d493 h t0 = some r) : zM l G yJ0_coder_7d493 cJ0_coder_7d493 1 (some .byte) 0 0 [.ref (zk G t0)] h (some (.int r)) h :=
  zM_of hG pn_J0 (Nat.le_of_ble_eq_true rfl) (fun K _ hK hE => b_J0_coder_7d493 hK ht0 hE hg)
theorem dJ0_length_8abf5_0 : decode cJ0_length_8abf5 0 = .ok (.aload_n 0, 1) := by decide +kernel
theorem dJ0_length_8abf5_1 : decode cJ0_length_8abf5 1 = .ok (.getfield 9, 3) := by decide +kernel
theorem dJ0_length_8abf5_4 : decode cJ0_length_8abf5 4 = .ok (.arraylength, 1) := by decide +kernel
theorem dJ0_length_8abf5_5 : decode cJ0_length_8abf5 5 = .ok (.aload_n 0, 1) := by decide +kernel
theorem dJ0_length_8abf5_6 : decode cJ0_length_8abf5 6 = .ok (.invokevirtual 335, 3) := by decide +kernel
theorem dJ0_length_8abf5_9 : decode cJ0_length_8abf5 9 = .ok (.ishr, 1) := by decide +kernel
theorem dJ0_length_8abf5_10 : decode cJ0_length_8abf5 10 = .ok (.ireturn, 1) := by decide +kernel
def g_J0_length_8abf5 (h : zH) (t0 : Nat) : Option Int32 := some ((Int32.ofNat (zlen.getD t0 0)) >>> (0 &&& 31))
set_option maxRecDepth 100000 in
set_option maxHeartbeats 4000000 in
theorem b_J0_length_8abf5 {K : zK} {G : zG} (hK : zC K G cJ0_length_8abf5 RJ0 1 1 20 (some .int)) {h : zH} {t0 : Nat} (ht0 : t0 < 2) {r : Int32} (hE : zE K G (some (.int r)) h) (hg : g_J0_length_8abf5 h t0 = some r) : zW K G 1 0 [(0, .ref (zk G t0))] [] h := by
  rw [g_J0_length_8abf5] at hg
  exact z_aload_n (pc := 0) hK 0 dJ0_length_8abf5_0 rfl (z_sgetV (pc := 1) hK ht0 q_1921 dJ0_length_8abf5_1 (z_balen (pc := 4) hK ht0 dJ0_length_8abf5_4 (z_aload_n (pc := 5) hK 0 dJ0_length_8abf5_5 rfl (z_callTi (pc := 6) hK [] (m_J0_coder_7d493 (zC_D hK) ht0 (show g_J0_coder_7d493 h t0 = some 0 from rfl)) st_J0_coder_7d493 q_559 ht0 rfl [.int (Int32.ofNat (zlen.getD t0 0))] rfl (Nat.le_of_ble_eq_true rfl) ⟨by decide, by decide⟩ dJ0_length_8abf5_6 (z_ishr (pc := 9) hK dJ0_length_8abf5_9 (z_iretP (pc := 10) hK hE hg dJ0_length_8abf5_10))))))
theorem m_J0_length_8abf5 {l : Launch} {G : zG} (hG : zD G) {h : zH} {t0 : Nat} (ht0 : t0 < 2) {r : Int32} (hg : g_J0_length_8abf5 h t0 = some r) : zM l G yJ0_length_8abf5 cJ0_length_8abf5 1 (some .int) 1 20 [.ref (zk G t0)] h (some (.int r)) h :=
  zM_of hG pn_J0 (Nat.le_of_ble_eq_true rfl) (fun K _ hK hE => b_J0_length_8abf5 hK ht0 hE hg)
theorem dJ0_isLatin1_aae02_0 : decode cJ0_isLatin1_aae02 0 = .ok (.getstatic 38, 3) := by decide +kernel
theorem dJ0_isLatin1_aae02_3 : decode cJ0_isLatin1_aae02 3 = .ok (.ifCond .eq 14, 3) := by decide +kernel
theorem dJ0_isLatin1_aae02_6 : decode cJ0_isLatin1_aae02 6 = .ok (.aload_n 0, 1) := by decide +kernel
theorem dJ0_isLatin1_aae02_7 : decode cJ0_isLatin1_aae02 7 = .ok (.getfield 15, 3) := by decide +kernel
theorem dJ0_isLatin1_aae02_10 : decode cJ0_isLatin1_aae02 10 = .ok (.ifCond .ne 7, 3) := by decide +kernel
theorem dJ0_isLatin1_aae02_13 : decode cJ0_isLatin1_aae02 13 = .ok (.iconst 1, 1) := by decide +kernel
theorem dJ0_isLatin1_aae02_14 : decode cJ0_isLatin1_aae02 14 = .ok (.goto 4, 3) := by decide +kernel
theorem dJ0_isLatin1_aae02_18 : decode cJ0_isLatin1_aae02 18 = .ok (.ireturn, 1) := by decide +kernel
def g_J0_isLatin1_aae02 (h : zH) (t0 : Nat) : Option Bool := some true
set_option maxRecDepth 100000 in
set_option maxHeartbeats 4000000 in
theorem b_J0_isLatin1_aae02 {K : zK} {G : zG} (hK : zC K G cJ0_isLatin1_aae02 RJ0 1 0 0 (some .boolean)) {h : zH} {t0 : Nat} (ht0 : t0 < 2) {r : Bool} (hE : zE K G (some (.int (zb r))) h) (hg : g_J0_isLatin1_aae02 h t0 = some r) : zW K G 1 0 [(0, .ref (zk G t0))] [] h := by
  rw [g_J0_isLatin1_aae02] at hg
  exact z_gsC (pc := 0) hK q_563 dJ0_isLatin1_aae02_0 (z_if_eq (kt := fun c => absurd c (by decide)) (pc := 3) hK 17 dJ0_isLatin1_aae02_3 (by decide) <| fun _ => (z_aload_n (pc := 6) hK 0 dJ0_isLatin1_aae02_6 rfl (z_sgetC (pc := 7) hK ht0 q_1922 dJ0_isLatin1_aae02_7 (z_if_ne (kt := fun c => absurd c (by decide)) (pc := 10) hK 17 dJ0_isLatin1_aae02_10 (by decide) <| fun _ => (z_iconst (pc := 13) hK dJ0_isLatin1_aae02_13 zc_i1 (z_goto (pc := 14) hK 18 dJ0_isLatin1_aae02_14 (by decide) (z_zretP (pc := 18) hK rfl hE hg dJ0_isLatin1_aae02_18)))))))
theorem m_J0_isLatin1_aae02 {l : Launch} {G : zG} (hG : zD G) {h : zH} {t0 : Nat} (ht0 : t0 < 2) {r : Bool} (hg : g_J0_isLatin1_aae02 h t0 = some r) : zM l G yJ0_isLatin1_aae02 cJ0_isLatin1_aae02 1 (some .boolean) 0 0 [.ref (zk G t0)] h (some (.int (zb r))) h :=
  zM_of hG pn_J0 (Nat.le_of_ble_eq_true rfl) (fun K _ hK hE => b_J0_isLatin1_aae02 hK ht0 hE hg)
theorem dJ3_checkIndex_8e157_0 : decode cJ3_checkIndex_8e157 0 = .ok (.iload_n 0, 1) := by decide +kernel
theorem dJ3_checkIndex_8e157_1 : decode cJ3_checkIndex_8e157 1 = .ok (.ifCond .lt 8, 3) := by decide +kernel
theorem dJ3_checkIndex_8e157_4 : decode cJ3_checkIndex_8e157 4 = .ok (.iload_n 0, 1) := by decide +kernel
theorem dJ3_checkIndex_8e157_5 : decode cJ3_checkIndex_8e157 5 = .ok (.iload_n 1, 1) := by decide +kernel
theorem dJ3_checkIndex_8e157_6 : decode cJ3_checkIndex_8e157 6 = .ok (.if_icmp .lt 10, 3) := by decide +kernel
theorem dJ3_checkIndex_8e157_9 : decode cJ3_checkIndex_8e157 9 = .ok (.aload_n 2, 1) := by decide +kernel
theorem dJ3_checkIndex_8e157_10 : decode cJ3_checkIndex_8e157 10 = .ok (.iload_n 0, 1) := by decide +kernel
theorem dJ3_checkIndex_8e157_11 : decode cJ3_checkIndex_8e157 11 = .ok (.iload_n 1, 1) := by decide +kernel
theorem dJ3_checkIndex_8e157_12 : decode cJ3_checkIndex_8e157 12 = .ok (.invokestatic 95, 3) := by decide +kernel
theorem dJ3_checkIndex_8e157_16 : decode cJ3_checkIndex_8e157 16 = .ok (.iload_n 0, 1) := by decide +kernel
theorem dJ3_checkIndex_8e157_17 : decode cJ3_checkIndex_8e157 17 = .ok (.ireturn, 1) := by decide +kernel
def g_J3_checkIndex_8e157_9 (h : zH)   (x0 : Int32) (x1 : Int32) : Option Int32 := none
def g_J3_checkIndex_8e157 (h : zH) (x0 : Int32) (x1 : Int32) : Option Int32 := if x0 < 0 then (g_J3_checkIndex_8e157_9 h x0 x1) else (if x0 < x1 then (some x0) else (g_J3_checkIndex_8e157_9 h x0 x1))
set_option maxRecDepth 100000 in
set_option maxHeartbeats 4000000 in
theorem b_J3_checkIndex_8e157_9 {K : zK} {G : zG} (hK : zC K G cJ3_checkIndex_8e157 RJ3 3 0 0 (some .int)) {h : zH} {r : Int32} (hE : zE K G (some (.int r)) h) (x0 : Int32) (x1 : Int32) (hg : g_J3_checkIndex_8e157_9 h x0 x1 = some r) : zW K G 3 9 [(0, .int x0), (1, .int x1), (2, zsv G)] [] h := by
  rw [g_J3_checkIndex_8e157_9] at hg
  exact nomatch (show none = some r from hg)
set_option maxRecDepth 100000 in
set_option maxHeartbeats 4000000 in
theorem b_J3_checkIndex_8e157 {K : zK} {G : zG} (hK : zC K G cJ3_checkIndex_8e157 RJ3 3 0 0 (some .int)) {h : zH} {x0 : Int32} {x1 : Int32}  {r : Int32} (hE : zE K G (some (.int r)) h) (hg : g_J3_checkIndex_8e157 h x0 x1 = some r) : zW K G 3 0 [(0, .int x0), (1, .int x1), (2, zsv G)] [] h := by
  rw [g_J3_checkIndex_8e157] at hg
  refine z_iload_n (pc := 0) hK 0 dJ3_checkIndex_8e157_0 rfl (z_if_lt (pc := 1) hK 9 dJ3_checkIndex_8e157_1 (by decide) (fun c_1 => ?_) (fun c_1 => ?_))
  · rw [if_pos c_1] at hg
    exact zsub (lv' := [(0, .int x0), (1, .int x1), (2, zsv G)]) [0, 1, 2] rfl (b_J3_checkIndex_8e157_9 hK hE x0 x1 hg)
  · rw [if_neg c_1] at hg
    refine z_iload_n (pc := 4) hK 0 dJ3_checkIndex_8e157_4 rfl (z_iload_n (pc := 5) hK 1 dJ3_checkIndex_8e157_5 rfl (z_icmp_lt (pc := 6) hK 16 dJ3_checkIndex_8e157_6 (by decide) (fun c_2 => ?_) (fun c_2 => ?_)))
    · rw [if_pos c_2] at hg
      exact z_iload_n (pc := 16) hK 0 dJ3_checkIndex_8e157_16 rfl (z_iretP (pc := 17) hK hE hg dJ3_checkIndex_8e157_17)
    · rw [if_neg c_2] at hg
      exact zsub (lv' := [(0, .int x0), (1, .int x1), (2, zsv G)]) [0, 1, 2] rfl (b_J3_checkIndex_8e157_9 hK hE x0 x1 hg)
theorem m_J3_checkIndex_8e157 {l : Launch} {G : zG} (hG : zD G) {h : zH} {x0 : Int32} {x1 : Int32}  {r : Int32} (hg : g_J3_checkIndex_8e157 h x0 x1 = some r) : zM l G yJ3_checkIndex_8e157 cJ3_checkIndex_8e157 3 (some .int) 0 0 [.int x0, .int x1, zsv G] h (some (.int r)) h :=
  zM_of hG pn_J3 (zlen_sv hG _ _) (fun K _ hK hE => b_J3_checkIndex_8e157 hK  hE hg)
theorem dJ0_checkIndex_df160_0 : decode cJ0_checkIndex_df160 0 = .ok (.iload_n 0, 1) := by decide +kernel
theorem dJ0_checkIndex_df160_1 : decode cJ0_checkIndex_df160 1 = .ok (.iload_n 1, 1) := by decide +kernel
theorem dJ0_checkIndex_df160_2 : decode cJ0_checkIndex_df160 2 = .ok (.getstatic 1053, 3) := by decide +kernel
theorem dJ0_checkIndex_df160_5 : decode cJ0_checkIndex_df160 5 = .ok (.invokestatic 1059, 3) := by decide +kernel
theorem dJ0_checkIndex_df160_8 : decode cJ0_checkIndex_df160 8 = .ok (.pop, 1) := by decide +kernel
theorem dJ0_checkIndex_df160_9 : decode cJ0_checkIndex_df160 9 = .ok (.return_, 1) := by decide +kernel
def g_J0_checkIndex_df160 (h : zH) (x0 : Int32) (x1 : Int32) : Option Unit := (g_J3_checkIndex_8e157 h x0 x1).bind fun v_1 => some ()
set_option maxRecDepth 100000 in
set_option maxHeartbeats 4000000 in
theorem b_J0_checkIndex_df160 {K : zK} {G : zG} (hK : zC K G cJ0_checkIndex_df160 RJ0 2 1 22 none) {h : zH} {x0 : Int32} {x1 : Int32}  {r : Unit} (hE : zE K G (none) h) (hg : g_J0_checkIndex_df160 h x0 x1 = some r) : zW K G 2 0 [(0, .int x0), (1, .int x1)] [] h := by
  rw [g_J0_checkIndex_df160] at hg
  obtain ⟨v_1, qv_1, hg⟩ := zbind_some hg
  exact z_iload_n (pc := 0) hK 0 dJ0_checkIndex_df160_0 rfl (z_iload_n (pc := 1) hK 1 dJ0_checkIndex_df160_1 rfl (z_gsF (pc := 2) hK q_579 dJ0_checkIndex_df160_2 (z_callSi (pc := 5) hK [.int x0, .int x1, zsv G] (m_J3_checkIndex_8e157 (zC_D hK) qv_1) ss_J3_checkIndex_8e157 q_581 rfl [] rfl (Nat.le_of_ble_eq_true rfl) ⟨by decide, by decide⟩ dJ0_checkIndex_df160_5 (z_pop (pc := 8) hK dJ0_checkIndex_df160_8 rfl (z_vretP (pc := 9) hK hE hg dJ0_checkIndex_df160_9)))))
theorem m_J0_checkIndex_df160 {l : Launch} {G : zG} (hG : zD G) {h : zH} {x0 : Int32} {x1 : Int32}  {r : Unit} (hg : g_J0_checkIndex_df160 h x0 x1 = some r) : zM l G yJ0_checkIndex_df160 cJ0_checkIndex_df160 2 none 1 22 [.int x0, .int x1] h (none) h :=
  zM_of hG pn_J0 (Nat.le_of_ble_eq_true rfl) (fun K _ hK hE => b_J0_checkIndex_df160 hK  hE hg)
theorem dJ1_charAt_3b067_0 : decode cJ1_charAt_3b067 0 = .ok (.iload_n 1, 1) := by decide +kernel
theorem dJ1_charAt_3b067_1 : decode cJ1_charAt_3b067 1 = .ok (.aload_n 0, 1) := by decide +kernel
theorem dJ1_charAt_3b067_2 : decode cJ1_charAt_3b067 2 = .ok (.arraylength, 1) := by decide +kernel
theorem dJ1_charAt_3b067_3 : decode cJ1_charAt_3b067 3 = .ok (.invokestatic 9, 3) := by decide +kernel
theorem dJ1_charAt_3b067_6 : decode cJ1_charAt_3b067 6 = .ok (.aload_n 0, 1) := by decide +kernel
theorem dJ1_charAt_3b067_7 : decode cJ1_charAt_3b067 7 = .ok (.iload_n 1, 1) := by decide +kernel
theorem dJ1_charAt_3b067_8 : decode cJ1_charAt_3b067 8 = .ok (.baload, 1) := by decide +kernel
theorem dJ1_charAt_3b067_9 : decode cJ1_charAt_3b067 9 = .ok (.sipush 255, 3) := by decide +kernel
theorem dJ1_charAt_3b067_12 : decode cJ1_charAt_3b067 12 = .ok (.iand, 1) := by decide +kernel
theorem dJ1_charAt_3b067_13 : decode cJ1_charAt_3b067 13 = .ok (.i2c, 1) := by decide +kernel
theorem dJ1_charAt_3b067_14 : decode cJ1_charAt_3b067 14 = .ok (.ireturn, 1) := by decide +kernel
def g_J1_charAt_3b067 (h : zH) (t0 : Nat) (x1 : Int32) : Option Int32 := (g_J0_checkIndex_df160 h x1 (Int32.ofNat (zlen.getD t0 0))).bind fun v_1 => zgu (zin x1 (zlen.getD t0 0)) <| zgu (zchr (((((zbyt.getD t0 []).getD (zx x1) 0) &&& 255).toUInt32 % 65536).toInt32)) <| some (((((zbyt.getD t0 []).getD (zx x1) 0) &&& 255).toUInt32 % 65536).toInt32)
set_option maxRecDepth 100000 in
set_option maxHeartbeats 4000000 in
theorem b_J1_charAt_3b067 {K : zK} {G : zG} (hK : zC K G cJ1_charAt_3b067 RJ1 2 2 43 (some .char)) {h : zH} {t0 : Nat} {x1 : Int32} (ht0 : t0 < 2) {r : Int32} (hE : zE K G (some (.int r)) h) (hg : g_J1_charAt_3b067 h t0 x1 = some r) : zW K G 2 0 [(0, .ref (zv G t0)), (1, .int x1)] [] h := by
  rw [g_J1_charAt_3b067] at hg
  obtain ⟨v_1, qv_1, hg⟩ := zbind_some hg
  obtain ⟨c_2, hg⟩ := zgu_some hg
  obtain ⟨c_3, hg⟩ := zgu_some hg
  exact z_iload_n (pc := 0) hK 1 dJ1_charAt_3b067_0 rfl (z_aload_n (pc := 1) hK 0 dJ1_charAt_3b067_1 rfl (z_balen (pc := 2) hK ht0 dJ1_charAt_3b067_2 (z_callSv (pc := 3) hK [.int x1, .int (Int32.ofNat (zlen.getD t0 0))] (m_J0_checkIndex_df160 (zC_D hK) qv_1) ss_J0_checkIndex_df160 q_576 rfl [] rfl (Nat.le_of_ble_eq_true rfl) ⟨by decide, by decide⟩ dJ1_charAt_3b067_3 (z_aload_n (pc := 6) hK 0 dJ1_charAt_3b067_6 rfl (z_iload_n (pc := 7) hK 1 dJ1_charAt_3b067_7 rfl (z_bald (pc := 8) hK ht0 c_2 dJ1_charAt_3b067_8 (z_sipush (pc := 9) hK dJ1_charAt_3b067_9 zc_s255 (z_iand (pc := 12) hK dJ1_charAt_3b067_12 (z_i2c (pc := 13) hK dJ1_charAt_3b067_13 rfl (z_cretP (pc := 14) hK c_3 hE hg dJ1_charAt_3b067_14))))))))))
theorem m_J1_charAt_3b067 {l : Launch} {G : zG} (hG : zD G) {h : zH} {t0 : Nat} {x1 : Int32} (ht0 : t0 < 2) {r : Int32} (hg : g_J1_charAt_3b067 h t0 x1 = some r) : zM l G yJ1_charAt_3b067 cJ1_charAt_3b067 2 (some .char) 2 43 [.ref (zv G t0), .int x1] h (some (.int r)) h :=
  zM_of hG pn_J1 (Nat.le_of_ble_eq_true rfl) (fun K _ hK hE => b_J1_charAt_3b067 hK ht0 hE hg)
theorem dJ0_charAt_5068e_0 : decode cJ0_charAt_5068e 0 = .ok (.aload_n 0, 1) := by decide +kernel
theorem dJ0_charAt_5068e_1 : decode cJ0_charAt_5068e 1 = .ok (.invokevirtual 492, 3) := by decide +kernel
theorem dJ0_charAt_5068e_4 : decode cJ0_charAt_5068e 4 = .ok (.ifCond .eq 12, 3) := by decide +kernel
theorem dJ0_charAt_5068e_7 : decode cJ0_charAt_5068e 7 = .ok (.aload_n 0, 1) := by decide +kernel
theorem dJ0_charAt_5068e_8 : decode cJ0_charAt_5068e 8 = .ok (.getfield 9, 3) := by decide +kernel
theorem dJ0_charAt_5068e_11 : decode cJ0_charAt_5068e 11 = .ok (.iload_n 1, 1) := by decide +kernel
theorem dJ0_charAt_5068e_12 : decode cJ0_charAt_5068e 12 = .ok (.invokestatic 495, 3) := by decide +kernel
theorem dJ0_charAt_5068e_15 : decode cJ0_charAt_5068e 15 = .ok (.ireturn, 1) := by decide +kernel
def g_J0_charAt_5068e (h : zH) (t0 : Nat) (x1 : Int32) : Option Int32 := (g_J1_charAt_3b067 h t0 x1).bind fun v_1 => zgu (zchr v_1) <| some v_1
set_option maxRecDepth 100000 in
set_option maxHeartbeats 4000000 in
theorem b_J0_charAt_5068e {K : zK} {G : zG} (hK : zC K G cJ0_charAt_5068e RJ0 2 3 64 (some .char)) {h : zH} {t0 : Nat} {x1 : Int32} (ht0 : t0 < 2) {r : Int32} (hE : zE K G (some (.int r)) h) (hg : g_J0_charAt_5068e h t0 x1 = some r) : zW K G 2 0 [(0, .ref (zk G t0)), (1, .int x1)] [] h := by
  rw [g_J0_charAt_5068e] at hg
  obtain ⟨v_1, qv_1, hg⟩ := zbind_some hg
  obtain ⟨c_2, hg⟩ := zgu_some hg
  exact z_aload_n (pc := 0) hK 0 dJ0_charAt_5068e_0 rfl (z_callTi (pc := 1) hK [] (m_J0_isLatin1_aae02 (zC_D hK) ht0 (show g_J0_isLatin1_aae02 h t0 = some true from rfl)) st_J0_isLatin1_aae02 q_569 ht0 rfl [] rfl (Nat.le_of_ble_eq_true rfl) ⟨by decide, by decide⟩ dJ0_charAt_5068e_1 (z_if_eq (kt := fun c => absurd c (by decide)) (pc := 4) hK 16 dJ0_charAt_5068e_4 (by decide) <| fun _ => (z_aload_n (pc := 7) hK 0 dJ0_charAt_5068e_7 rfl (z_sgetV (pc := 8) hK ht0 q_1921 dJ0_charAt_5068e_8 (z_iload_n (pc := 11) hK 1 dJ0_charAt_5068e_11 rfl (z_callSi (pc := 12) hK [.ref (zv G t0), .int x1] (m_J1_charAt_3b067 (zC_D hK) ht0 qv_1) ss_J1_charAt_3b067 q_573 rfl [] rfl (Nat.le_of_ble_eq_true rfl) ⟨by decide, by decide⟩ dJ0_charAt_5068e_12 (z_cretP (pc := 15) hK c_2 hE hg dJ0_charAt_5068e_15)))))))
theorem m_J0_charAt_5068e {l : Launch} {G : zG} (hG : zD G) {h : zH} {t0 : Nat} {x1 : Int32} (ht0 : t0 < 2) {r : Int32} (hg : g_J0_charAt_5068e h t0 x1 = some r) : zM l G yJ0_charAt_5068e cJ0_charAt_5068e 2 (some .char) 3 64 [.ref (zk G t0), .int x1] h (some (.int r)) h :=
  zM_of hG pn_J0 (Nat.le_of_ble_eq_true rfl) (fun K _ hK hE => b_J0_charAt_5068e hK ht0 hE hg)
theorem dX8_wordToken_0 : decode cX8_wordToken 0 = .ok (.bipush 12, 2) := by decide +kernel
theorem dX8_wordToken_2 : decode cX8_wordToken 2 = .ok (.istore_n 1, 1) := by decide +kernel
theorem dX8_wordToken_3 : decode cX8_wordToken 3 = .ok (.iconst 0, 1) := by decide +kernel
theorem dX8_wordToken_4 : decode cX8_wordToken 4 = .ok (.istore_n 2, 1) := by decide +kernel
theorem dX8_wordToken_5 : decode cX8_wordToken 5 = .ok (.iconst 0, 1) := by decide +kernel
theorem dX8_wordToken_6 : decode cX8_wordToken 6 = .ok (.istore_n 3, 1) := by decide +kernel
theorem dX8_wordToken_7 : decode cX8_wordToken 7 = .ok (.iload_n 3, 1) := by decide +kernel
theorem dX8_wordToken_8 : decode cX8_wordToken 8 = .ok (.ldc 60, 2) := by decide +kernel
theorem dX8_wordToken_10 : decode cX8_wordToken 10 = .ok (.invokevirtual 62, 3) := by decide +kernel
theorem dX8_wordToken_13 : decode cX8_wordToken 13 = .ok (.if_icmp .ge 88, 3) := by decide +kernel
theorem dX8_wordToken_16 : decode cX8_wordToken 16 = .ok (.ldc 60, 2) := by decide +kernel
theorem dX8_wordToken_18 : decode cX8_wordToken 18 = .ok (.iload_n 3, 1) := by decide +kernel
theorem dX8_wordToken_19 : decode cX8_wordToken 19 = .ok (.invokevirtual 64, 3) := by decide +kernel
theorem dX8_wordToken_22 : decode cX8_wordToken 22 = .ok (.istore 4, 2) := by decide +kernel
theorem dX8_wordToken_24 : decode cX8_wordToken 24 = .ok (.iload 4, 2) := by decide +kernel
theorem dX8_wordToken_26 : decode cX8_wordToken 26 = .ok (.bipush 32, 2) := by decide +kernel
theorem dX8_wordToken_28 : decode cX8_wordToken 28 = .ok (.if_icmp .ne 26, 3) := by decide +kernel
theorem dX8_wordToken_31 : decode cX8_wordToken 31 = .ok (.iload_n 2, 1) := by decide +kernel
theorem dX8_wordToken_32 : decode cX8_wordToken 32 = .ok (.aload_n 0, 1) := by decide +kernel
theorem dX8_wordToken_33 : decode cX8_wordToken 33 = .ok (.getfield 17, 3) := by decide +kernel
theorem dX8_wordToken_36 : decode cX8_wordToken 36 = .ok (.aload_n 0, 1) := by decide +kernel
theorem dX8_wordToken_37 : decode cX8_wordToken 37 = .ok (.getfield 23, 3) := by decide +kernel
theorem dX8_wordToken_40 : decode cX8_wordToken 40 = .ok (.isub, 1) := by decide +kernel
theorem dX8_wordToken_41 : decode cX8_wordToken 41 = .ok (.if_icmp .ne 5, 3) := by decide +kernel
theorem dX8_wordToken_44 : decode cX8_wordToken 44 = .ok (.iload_n 1, 1) := by decide +kernel
theorem dX8_wordToken_45 : decode cX8_wordToken 45 = .ok (.ireturn, 1) := by decide +kernel
theorem dX8_wordToken_46 : decode cX8_wordToken 46 = .ok (.iinc 1 1, 3) := by decide +kernel
theorem dX8_wordToken_49 : decode cX8_wordToken 49 = .ok (.iconst 0, 1) := by decide +kernel
theorem dX8_wordToken_50 : decode cX8_wordToken 50 = .ok (.istore_n 2, 1) := by decide +kernel
theorem dX8_wordToken_51 : decode cX8_wordToken 51 = .ok (.goto 44, 3) := by decide +kernel
theorem dX8_wordToken_54 : decode cX8_wordToken 54 = .ok (.iload_n 2, 1) := by decide +kernel
theorem dX8_wordToken_55 : decode cX8_wordToken 55 = .ok (.ifCond .lt 38, 3) := by decide +kernel
theorem dX8_wordToken_58 : decode cX8_wordToken 58 = .ok (.aload_n 0, 1) := by decide +kernel
theorem dX8_wordToken_59 : decode cX8_wordToken 59 = .ok (.getfield 23, 3) := by decide +kernel
theorem dX8_wordToken_62 : decode cX8_wordToken 62 = .ok (.iload_n 2, 1) := by decide +kernel
theorem dX8_wordToken_63 : decode cX8_wordToken 63 = .ok (.iadd, 1) := by decide +kernel
theorem dX8_wordToken_64 : decode cX8_wordToken 64 = .ok (.aload_n 0, 1) := by decide +kernel
theorem dX8_wordToken_65 : decode cX8_wordToken 65 = .ok (.getfield 17, 3) := by decide +kernel
theorem dX8_wordToken_68 : decode cX8_wordToken 68 = .ok (.if_icmp .ge 25, 3) := by decide +kernel
theorem dX8_wordToken_71 : decode cX8_wordToken 71 = .ok (.aload_n 0, 1) := by decide +kernel
theorem dX8_wordToken_72 : decode cX8_wordToken 72 = .ok (.getfield 9, 3) := by decide +kernel
theorem dX8_wordToken_75 : decode cX8_wordToken 75 = .ok (.aload_n 0, 1) := by decide +kernel
theorem dX8_wordToken_76 : decode cX8_wordToken 76 = .ok (.getfield 23, 3) := by decide +kernel
theorem dX8_wordToken_79 : decode cX8_wordToken 79 = .ok (.iload_n 2, 1) := by decide +kernel
theorem dX8_wordToken_80 : decode cX8_wordToken 80 = .ok (.iadd, 1) := by decide +kernel
theorem dX8_wordToken_81 : decode cX8_wordToken 81 = .ok (.caload, 1) := by decide +kernel
theorem dX8_wordToken_82 : decode cX8_wordToken 82 = .ok (.iload 4, 2) := by decide +kernel
theorem dX8_wordToken_84 : decode cX8_wordToken 84 = .ok (.if_icmp .ne 9, 3) := by decide +kernel
theorem dX8_wordToken_87 : decode cX8_wordToken 87 = .ok (.iinc 2 1, 3) := by decide +kernel
theorem dX8_wordToken_90 : decode cX8_wordToken 90 = .ok (.goto 5, 3) := by decide +kernel
theorem dX8_wordToken_93 : decode cX8_wordToken 93 = .ok (.iconst (-1), 1) := by decide +kernel
theorem dX8_wordToken_94 : decode cX8_wordToken 94 = .ok (.istore_n 2, 1) := by decide +kernel
theorem dX8_wordToken_95 : decode cX8_wordToken 95 = .ok (.iinc 3 1, 3) := by decide +kernel
theorem dX8_wordToken_98 : decode cX8_wordToken 98 = .ok (.goto (-91), 3) := by decide +kernel
theorem dX8_wordToken_101 : decode cX8_wordToken 101 = .ok (.iconst 2, 1) := by decide +kernel
theorem dX8_wordToken_102 : decode cX8_wordToken 102 = .ok (.ireturn, 1) := by decide +kernel
def g_X8_wordToken_7 (h : zH) (t0 : Nat)  : Nat → Int32 → Int32 → Int32 → Option Int32
  | 0, _, _, _ => none
  | n + 1, x1, x2, x3 => (g_J0_length_8abf5 h 1).bind fun v_1 => if v_1 ≤ x3 then (some 2) else ((g_J0_charAt_5068e h 1 x3).bind fun v_3 => if v_3 = 32 then (if x2 = ((h.1 t0 5) - (h.1 t0 3)) then (some x1) else (g_X8_wordToken_7 h t0 n (x1 + 1) 0 (x3 + 1))) else (if x2 < 0 then (g_X8_wordToken_7 h t0 n x1 (-1) (x3 + 1)) else (if (h.1 t0 5) ≤ ((h.1 t0 3) + x2) then (g_X8_wordToken_7 h t0 n x1 (-1) (x3 + 1)) else (zgu (zin ((h.1 t0 3) + x2) 1000) <| if (h.1 (zR t0 0) (zx ((h.1 t0 3) + x2))) = v_3 then (g_X8_wordToken_7 h t0 n x1 (x2 + 1) (x3 + 1)) else (g_X8_wordToken_7 h t0 n x1 (-1) (x3 + 1))))))
def g_X8_wordToken (h : zH) (t0 : Nat) : Option Int32 := g_X8_wordToken_7 h t0 zfu 12 0 0
set_option maxRecDepth 100000 in
set_option maxHeartbeats 4000000 in
theorem b_X8_wordToken_7 {K : zK} {G : zG} (hK : zC K G cX8_wordToken RX8 5 4 85 (some .int)) {h : zH} {t0 : Nat} (ht0 : zT t0 = (7, 0)) {r : Int32} (hE : zE K G (some (.int r)) h) : ∀ (n : Nat) (x1 : Int32) (x2 : Int32) (x3 : Int32), g_X8_wordToken_7 h t0 n x1 x2 x3 = some r → zW K G 5 7 [(0, .ref (G.2.2.2 t0)), (1, .int x1), (2, .int x2), (3, .int x3)] [] h := by
  intro n
  induction n with
  | zero => intro x1 x2 x3 hg; exact nomatch (show none = some r from hg)
  | succ n ih =>
    intro x1 x2 x3 hg
    rw [g_X8_wordToken_7] at hg
    obtain ⟨v_1, qv_1, hg⟩ := zbind_some hg
    refine z_iload_n (pc := 7) hK 3 dX8_wordToken_7 rfl (z_ldcS1 (pc := 8) hK dX8_wordToken_8 (z_callTi (pc := 10) hK [] (m_J0_length_8abf5 (zC_D hK) (by decide) qv_1) st_J0_length_8abf5 q_555 (by decide) rfl [.int x3] rfl (Nat.le_of_ble_eq_true rfl) ⟨by decide, by decide⟩ dX8_wordToken_10 (z_icmp_ge (pc := 13) hK 101 dX8_wordToken_13 (by decide) (fun c_2 => ?_) (fun c_2 => ?_))))
    · rw [if_pos c_2] at hg
      exact z_iconst (pc := 101) hK dX8_wordToken_101 zc_i2 (z_iretP (pc := 102) hK hE hg dX8_wordToken_102)
    · rw [if_neg c_2] at hg
      obtain ⟨v_3, qv_3, hg⟩ := zbind_some hg
      refine z_ldcS1 (pc := 16) hK dX8_wordToken_16 (z_iload_n (pc := 18) hK 3 dX8_wordToken_18 rfl (z_callTi (pc := 19) hK [.int x3] (m_J0_charAt_5068e (zC_D hK) (by decide) qv_3) st_J0_charAt_5068e q_565 (by decide) rfl [] rfl (Nat.le_of_ble_eq_true rfl) ⟨by decide, by decide⟩ dX8_wordToken_19 (z_istore (pc := 22) hK (lv' := [(4, .int v_3), (0, .ref (G.2.2.2 t0)), (1, .int x1), (2, .int x2), (3, .int x3)]) dX8_wordToken_22 (by decide) rfl (z_iload (pc := 24) hK 0 dX8_wordToken_24 rfl (z_bipush (pc := 26) hK dX8_wordToken_26 zc_b32 (z_icmp_ne (pc := 28) hK 54 dX8_wordToken_28 (by decide) (fun c_4 => ?_) (fun c_4 => ?_)))))))
      · rw [if_neg c_4] at hg
        refine z_iload_n (pc := 54) hK 3 dX8_wordToken_54 rfl (z_if_lt (pc := 55) hK 93 dX8_wordToken_55 (by decide) (fun c_5 => ?_) (fun c_5 => ?_))
        · rw [if_pos c_5] at hg
          exact z_iconst (pc := 93) hK dX8_wordToken_93 zc_im1 (z_istore_n (pc := 94) hK (lv' := [(2, .int (-1)), (4, .int v_3), (0, .ref (G.2.2.2 t0)), (1, .int x1), (3, .int x3)]) dX8_wordToken_94 (by decide) rfl (z_iinc (pc := 95) hK 4 (lv' := [(3, .int (x3 + 1)), (2, .int (-1)), (4, .int v_3), (0, .ref (G.2.2.2 t0)), (1, .int x1)]) dX8_wordToken_95 rfl (zc_n1 _) (by decide) rfl (z_goto (pc := 98) hK 7 dX8_wordToken_98 (by decide) (zsub (lv' := [(0, .ref (G.2.2.2 t0)), (1, .int x1), (2, .int (-1)), (3, .int (x3 + 1))]) [3, 4, 1, 0] rfl (ih x1 (-1) (x3 + 1) hg)))))
        · rw [if_neg c_5] at hg
          refine z_aload_n (pc := 58) hK 1 dX8_wordToken_58 rfl (z_getI (pc := 59) hK f_X8_23_7 ht0 dX8_wordToken_59 (z_iload_n (pc := 62) hK 3 dX8_wordToken_62 rfl (z_iadd (pc := 63) hK dX8_wordToken_63 (z_aload_n (pc := 64) hK 1 dX8_wordToken_64 rfl (z_getI (pc := 65) hK f_X8_17_7 ht0 dX8_wordToken_65 (z_icmp_ge (pc := 68) hK 93 dX8_wordToken_68 (by decide) (fun c_6 => ?_) (fun c_6 => ?_)))))))
          · rw [if_pos c_6] at hg
            exact z_iconst (pc := 93) hK dX8_wordToken_93 zc_im1 (z_istore_n (pc := 94) hK (lv' := [(2, .int (-1)), (4, .int v_3), (0, .ref (G.2.2.2 t0)), (1, .int x1), (3, .int x3)]) dX8_wordToken_94 (by decide) rfl (z_iinc (pc := 95) hK 4 (lv' := [(3, .int (x3 + 1)), (2, .int (-1)), (4, .int v_3), (0, .ref (G.2.2.2 t0)), (1, .int x1)]) dX8_wordToken_95 rfl (zc_n1 _) (by decide) rfl (z_goto (pc := 98) hK 7 dX8_wordToken_98 (by decide) (zsub (lv' := [(0, .ref (G.2.2.2 t0)), (1, .int x1), (2, .int (-1)), (3, .int (x3 + 1))]) [3, 4, 1, 0] rfl (ih x1 (-1) (x3 + 1) hg)))))
          · rw [if_neg c_6] at hg
            obtain ⟨c_7, hg⟩ := zgu_some hg
            refine z_aload_n (pc := 71) hK 1 dX8_wordToken_71 rfl (z_getR (pc := 72) hK f_X8_9_7 ht0 dX8_wordToken_72 (z_aload_n (pc := 75) hK 1 dX8_wordToken_75 rfl (z_getI (pc := 76) hK f_X8_23_7 ht0 dX8_wordToken_76 (z_iload_n (pc := 79) hK 3 dX8_wordToken_79 rfl (z_iadd (pc := 80) hK dX8_wordToken_80 (z_cald (pc := 81) hK (zt_7_0 ht0) c_7 dX8_wordToken_81 (z_iload (pc := 82) hK 0 dX8_wordToken_82 rfl (z_icmp_ne (pc := 84) hK 93 dX8_wordToken_84 (by decide) (fun c_8 => ?_) (fun c_8 => ?_)))))))))
            · rw [if_neg c_8] at hg
              exact z_iconst (pc := 93) hK dX8_wordToken_93 zc_im1 (z_istore_n (pc := 94) hK (lv' := [(2, .int (-1)), (4, .int v_3), (0, .ref (G.2.2.2 t0)), (1, .int x1), (3, .int x3)]) dX8_wordToken_94 (by decide) rfl (z_iinc (pc := 95) hK 4 (lv' := [(3, .int (x3 + 1)), (2, .int (-1)), (4, .int v_3), (0, .ref (G.2.2.2 t0)), (1, .int x1)]) dX8_wordToken_95 rfl (zc_n1 _) (by decide) rfl (z_goto (pc := 98) hK 7 dX8_wordToken_98 (by decide) (zsub (lv' := [(0, .ref (G.2.2.2 t0)), (1, .int x1), (2, .int (-1)), (3, .int (x3 + 1))]) [3, 4, 1, 0] rfl (ih x1 (-1) (x3 + 1) hg)))))
            · rw [if_pos c_8] at hg
              exact z_iinc (pc := 87) hK 3 (lv' := [(2, .int (x2 + 1)), (4, .int v_3), (0, .ref (G.2.2.2 t0)), (1, .int x1), (3, .int x3)]) dX8_wordToken_87 rfl (zc_n1 _) (by decide) rfl (z_goto (pc := 90) hK 95 dX8_wordToken_90 (by decide) (z_iinc (pc := 95) hK 4 (lv' := [(3, .int (x3 + 1)), (2, .int (x2 + 1)), (4, .int v_3), (0, .ref (G.2.2.2 t0)), (1, .int x1)]) dX8_wordToken_95 rfl (zc_n1 _) (by decide) rfl (z_goto (pc := 98) hK 7 dX8_wordToken_98 (by decide) (zsub (lv' := [(0, .ref (G.2.2.2 t0)), (1, .int x1), (2, .int (x2 + 1)), (3, .int (x3 + 1))]) [3, 4, 1, 0] rfl (ih x1 (x2 + 1) (x3 + 1) hg)))))
      · rw [if_pos c_4] at hg
        refine z_iload_n (pc := 31) hK 3 dX8_wordToken_31 rfl (z_aload_n (pc := 32) hK 1 dX8_wordToken_32 rfl (z_getI (pc := 33) hK f_X8_17_7 ht0 dX8_wordToken_33 (z_aload_n (pc := 36) hK 1 dX8_wordToken_36 rfl (z_getI (pc := 37) hK f_X8_23_7 ht0 dX8_wordToken_37 (z_isub (pc := 40) hK dX8_wordToken_40 (z_icmp_ne (pc := 41) hK 46 dX8_wordToken_41 (by decide) (fun c_9 => ?_) (fun c_9 => ?_)))))))
        · rw [if_neg c_9] at hg
          exact z_iinc (pc := 46) hK 2 (lv' := [(1, .int (x1 + 1)), (4, .int v_3), (0, .ref (G.2.2.2 t0)), (2, .int x2), (3, .int x3)]) dX8_wordToken_46 rfl (zc_n1 _) (by decide) rfl (z_iconst (pc := 49) hK dX8_wordToken_49 zc_i0 (z_istore_n (pc := 50) hK (lv' := [(2, .int 0), (1, .int (x1 + 1)), (4, .int v_3), (0, .ref (G.2.2.2 t0)), (3, .int x3)]) dX8_wordToken_50 (by decide) rfl (z_goto (pc := 51) hK 95 dX8_wordToken_51 (by decide) (z_iinc (pc := 95) hK 4 (lv' := [(3, .int (x3 + 1)), (2, .int 0), (1, .int (x1 + 1)), (4, .int v_3), (0, .ref (G.2.2.2 t0))]) dX8_wordToken_95 rfl (zc_n1 _) (by decide) rfl (z_goto (pc := 98) hK 7 dX8_wordToken_98 (by decide) (zsub (lv' := [(0, .ref (G.2.2.2 t0)), (1, .int (x1 + 1)), (2, .int 0), (3, .int (x3 + 1))]) [4, 2, 1, 0] rfl (ih (x1 + 1) 0 (x3 + 1) hg)))))))
        · rw [if_pos c_9] at hg
          exact z_iload_n (pc := 44) hK 2 dX8_wordToken_44 rfl (z_iretP (pc := 45) hK hE hg dX8_wordToken_45)
set_option maxRecDepth 100000 in
set_option maxHeartbeats 4000000 in
theorem b_X8_wordToken {K : zK} {G : zG} (hK : zC K G cX8_wordToken RX8 5 4 85 (some .int)) {h : zH} {t0 : Nat} (ht0 : zT t0 = (7, 0)) {r : Int32} (hE : zE K G (some (.int r)) h) (hg : g_X8_wordToken h t0 = some r) : zW K G 5 0 [(0, .ref (G.2.2.2 t0))] [] h := by
  rw [g_X8_wordToken] at hg
  exact z_bipush (pc := 0) hK dX8_wordToken_0 zc_b12 (z_istore_n (pc := 2) hK (lv' := [(1, .int 12), (0, .ref (G.2.2.2 t0))]) dX8_wordToken_2 (by decide) rfl (z_iconst (pc := 3) hK dX8_wordToken_3 zc_i0 (z_istore_n (pc := 4) hK (lv' := [(2, .int 0), (1, .int 12), (0, .ref (G.2.2.2 t0))]) dX8_wordToken_4 (by decide) rfl (z_iconst (pc := 5) hK dX8_wordToken_5 zc_i0 (z_istore_n (pc := 6) hK (lv' := [(3, .int 0), (2, .int 0), (1, .int 12), (0, .ref (G.2.2.2 t0))]) dX8_wordToken_6 (by decide) rfl (zsub (lv' := [(0, .ref (G.2.2.2 t0)), (1, .int 12), (2, .int 0), (3, .int 0)]) [3, 2, 1, 0] rfl (b_X8_wordToken_7 hK ht0 hE zfu 12 0 0 hg)))))))
theorem m_X8_wordToken {l : Launch} {G : zG} (hG : zD G) {h : zH} {t0 : Nat} (ht0 : zT t0 = (7, 0)) {r : Int32} (hg : g_X8_wordToken h t0 = some r) : zM l G yX8_wordToken cX8_wordToken 5 (some .int) 4 85 [.ref (G.2.2.2 t0)] h (some (.int r)) h :=
  zM_of hG pn_X8 (Nat.le_of_ble_eq_true rfl) (fun K _ hK hE => b_X8_wordToken hK ht0 hE hg)
theorem dX8_isNumeral_0 : decode cX8_isNumeral 0 = .ok (.iload_n 0, 1) := by decide +kernel
theorem dX8_isNumeral_1 : decode cX8_isNumeral 1 = .ok (.bipush 48, 2) := by decide +kernel
theorem dX8_isNumeral_3 : decode cX8_isNumeral 3 = .ok (.if_icmp .lt 13, 3) := by decide +kernel
theorem dX8_isNumeral_6 : decode cX8_isNumeral 6 = .ok (.iload_n 0, 1) := by decide +kernel
theorem dX8_isNumeral_7 : decode cX8_isNumeral 7 = .ok (.bipush 57, 2) := by decide +kernel
theorem dX8_isNumeral_9 : decode cX8_isNumeral 9 = .ok (.if_icmp .gt 7, 3) := by decide +kernel
theorem dX8_isNumeral_12 : decode cX8_isNumeral 12 = .ok (.iconst 1, 1) := by decide +kernel
theorem dX8_isNumeral_13 : decode cX8_isNumeral 13 = .ok (.goto 4, 3) := by decide +kernel
theorem dX8_isNumeral_16 : decode cX8_isNumeral 16 = .ok (.iconst 0, 1) := by decide +kernel
theorem dX8_isNumeral_17 : decode cX8_isNumeral 17 = .ok (.ireturn, 1) := by decide +kernel
def g_X8_isNumeral (h : zH) (x0 : Int32) : Option Bool := if x0 < 48 then (some false) else (if 57 < x0 then (some false) else (some true))
set_option maxRecDepth 100000 in
set_option maxHeartbeats 4000000 in
theorem b_X8_isNumeral {K : zK} {G : zG} (hK : zC K G cX8_isNumeral RX8 1 0 0 (some .boolean)) {h : zH} {x0 : Int32}  {r : Bool} (hE : zE K G (some (.int (zb r))) h) (hg : g_X8_isNumeral h x0 = some r) : zW K G 1 0 [(0, .int x0)] [] h := by
  rw [g_X8_isNumeral] at hg
  refine z_iload_n (pc := 0) hK 0 dX8_isNumeral_0 rfl (z_bipush (pc := 1) hK dX8_isNumeral_1 zc_b48 (z_icmp_lt (pc := 3) hK 16 dX8_isNumeral_3 (by decide) (fun c_1 => ?_) (fun c_1 => ?_)))
  · rw [if_pos c_1] at hg
    exact z_iconst (pc := 16) hK dX8_isNumeral_16 zc_i0 (z_zretP (pc := 17) hK rfl hE hg dX8_isNumeral_17)
  · rw [if_neg c_1] at hg
    refine z_iload_n (pc := 6) hK 0 dX8_isNumeral_6 rfl (z_bipush (pc := 7) hK dX8_isNumeral_7 zc_b57 (z_icmp_gt (pc := 9) hK 16 dX8_isNumeral_9 (by decide) (fun c_2 => ?_) (fun c_2 => ?_)))
    · rw [if_pos c_2] at hg
      exact z_iconst (pc := 16) hK dX8_isNumeral_16 zc_i0 (z_zretP (pc := 17) hK rfl hE hg dX8_isNumeral_17)
    · rw [if_neg c_2] at hg
      exact z_iconst (pc := 12) hK dX8_isNumeral_12 zc_i1 (z_goto (pc := 13) hK 17 dX8_isNumeral_13 (by decide) (z_zretP (pc := 17) hK rfl hE hg dX8_isNumeral_17))
theorem m_X8_isNumeral {l : Launch} {G : zG} (hG : zD G) {h : zH} {x0 : Int32}  {r : Bool} (hg : g_X8_isNumeral h x0 = some r) : zM l G yX8_isNumeral cX8_isNumeral 1 (some .boolean) 0 0 [.int x0] h (some (.int (zb r))) h :=
  zM_of hG pn_X8 (Nat.le_of_ble_eq_true rfl) (fun K _ hK hE => b_X8_isNumeral hK  hE hg)
theorem dX8_passNumber_0 : decode cX8_passNumber 0 = .ok (.aload_n 0, 1) := by decide +kernel
theorem dX8_passNumber_1 : decode cX8_passNumber 1 = .ok (.iconst 0, 1) := by decide +kernel
theorem dX8_passNumber_2 : decode cX8_passNumber 2 = .ok (.putfield 57, 3) := by decide +kernel
theorem dX8_passNumber_5 : decode cX8_passNumber 5 = .ok (.aload_n 0, 1) := by decide +kernel
theorem dX8_passNumber_6 : decode cX8_passNumber 6 = .ok (.getfield 17, 3) := by decide +kernel
theorem dX8_passNumber_9 : decode cX8_passNumber 9 = .ok (.aload_n 0, 1) := by decide +kernel
theorem dX8_passNumber_10 : decode cX8_passNumber 10 = .ok (.getfield 13, 3) := by decide +kernel
theorem dX8_passNumber_13 : decode cX8_passNumber 13 = .ok (.if_icmp .ge 55, 3) := by decide +kernel
theorem dX8_passNumber_16 : decode cX8_passNumber 16 = .ok (.aload_n 0, 1) := by decide +kernel
theorem dX8_passNumber_17 : decode cX8_passNumber 17 = .ok (.getfield 9, 3) := by decide +kernel
theorem dX8_passNumber_20 : decode cX8_passNumber 20 = .ok (.aload_n 0, 1) := by decide +kernel
theorem dX8_passNumber_21 : decode cX8_passNumber 21 = .ok (.getfield 17, 3) := by decide +kernel
theorem dX8_passNumber_24 : decode cX8_passNumber 24 = .ok (.caload, 1) := by decide +kernel
theorem dX8_passNumber_25 : decode cX8_passNumber 25 = .ok (.invokestatic 43, 3) := by decide +kernel
theorem dX8_passNumber_28 : decode cX8_passNumber 28 = .ok (.ifCond .eq 40, 3) := by decide +kernel
theorem dX8_passNumber_31 : decode cX8_passNumber 31 = .ok (.aload_n 0, 1) := by decide +kernel
theorem dX8_passNumber_32 : decode cX8_passNumber 32 = .ok (.aload_n 0, 1) := by decide +kernel
theorem dX8_passNumber_33 : decode cX8_passNumber 33 = .ok (.getfield 57, 3) := by decide +kernel
theorem dX8_passNumber_36 : decode cX8_passNumber 36 = .ok (.bipush 10, 2) := by decide +kernel
theorem dX8_passNumber_38 : decode cX8_passNumber 38 = .ok (.imul, 1) := by decide +kernel
theorem dX8_passNumber_39 : decode cX8_passNumber 39 = .ok (.aload_n 0, 1) := by decide +kernel
theorem dX8_passNumber_40 : decode cX8_passNumber 40 = .ok (.getfield 9, 3) := by decide +kernel
theorem dX8_passNumber_43 : decode cX8_passNumber 43 = .ok (.aload_n 0, 1) := by decide +kernel
theorem dX8_passNumber_44 : decode cX8_passNumber 44 = .ok (.getfield 17, 3) := by decide +kernel
theorem dX8_passNumber_47 : decode cX8_passNumber 47 = .ok (.caload, 1) := by decide +kernel
theorem dX8_passNumber_48 : decode cX8_passNumber 48 = .ok (.bipush 48, 2) := by decide +kernel
theorem dX8_passNumber_50 : decode cX8_passNumber 50 = .ok (.isub, 1) := by decide +kernel
theorem dX8_passNumber_51 : decode cX8_passNumber 51 = .ok (.iadd, 1) := by decide +kernel
theorem dX8_passNumber_52 : decode cX8_passNumber 52 = .ok (.putfield 57, 3) := by decide +kernel
theorem dX8_passNumber_55 : decode cX8_passNumber 55 = .ok (.aload_n 0, 1) := by decide +kernel
theorem dX8_passNumber_56 : decode cX8_passNumber 56 = .ok (.dup, 1) := by decide +kernel
theorem dX8_passNumber_57 : decode cX8_passNumber 57 = .ok (.getfield 17, 3) := by decide +kernel
theorem dX8_passNumber_60 : decode cX8_passNumber 60 = .ok (.iconst 1, 1) := by decide +kernel
theorem dX8_passNumber_61 : decode cX8_passNumber 61 = .ok (.iadd, 1) := by decide +kernel
theorem dX8_passNumber_62 : decode cX8_passNumber 62 = .ok (.putfield 17, 3) := by decide +kernel
theorem dX8_passNumber_65 : decode cX8_passNumber 65 = .ok (.goto (-60), 3) := by decide +kernel
theorem dX8_passNumber_68 : decode cX8_passNumber 68 = .ok (.return_, 1) := by decide +kernel
def g_X8_passNumber_5 (t0 : Nat)  : Nat → zH → Option zH
  | 0, _ => none
  | n + 1, h => if (h.1 t0 1) ≤ (h.1 t0 5) then (some h) else (zgu (zin (h.1 t0 5) 1000) <| (g_X8_isNumeral h (h.1 (zR t0 0) (zx (h.1 t0 5)))).bind fun v_4 => if (zb v_4) = 0 then (some h) else (zgu (zin (h.1 t0 5) 1000) <| zlet (zpi h t0 4 (((h.1 t0 4) * 10) + ((h.1 (zR t0 0) (zx (h.1 t0 5))) - 48))) fun h_7 => zlet (zpi h_7 t0 5 ((h_7.1 t0 5) + 1)) fun h_8 => g_X8_passNumber_5 t0 n h_8))
def g_X8_passNumber (h : zH) (t0 : Nat) : Option zH := zlet (zpi h t0 4 0) fun h_1 => g_X8_passNumber_5 t0 zfu h_1
set_option maxRecDepth 100000 in
set_option maxHeartbeats 4000000 in
theorem b_X8_passNumber_5 {K : zK} {G : zG} (hK : zC K G cX8_passNumber RX8 1 1 20 none) {t0 : Nat} (ht0 : zT t0 = (7, 0)) {r : zH} (hE : zE K G (none) r) : ∀ (n : Nat) (h : zH), g_X8_passNumber_5 t0 n h = some r → zW K G 1 5 [(0, .ref (G.2.2.2 t0))] [] h := by
  intro n
  induction n with
  | zero => intro h hg; exact nomatch (show none = some r from hg)
  | succ n ih =>
    intro h hg
    rw [g_X8_passNumber_5] at hg
    refine z_aload_n (pc := 5) hK 0 dX8_passNumber_5 rfl (z_getI (pc := 6) hK f_X8_17_7 ht0 dX8_passNumber_6 (z_aload_n (pc := 9) hK 0 dX8_passNumber_9 rfl (z_getI (pc := 10) hK f_X8_13_7 ht0 dX8_passNumber_10 (z_icmp_ge (pc := 13) hK 68 dX8_passNumber_13 (by decide) (fun c_2 => ?_) (fun c_2 => ?_)))))
    · rw [if_pos c_2] at hg
      exact z_vretE (pc := 68) hK hE hg dX8_passNumber_68
    · rw [if_neg c_2] at hg
      obtain ⟨c_3, hg⟩ := zgu_some hg
      obtain ⟨v_4, qv_4, hg⟩ := zbind_some hg
      refine z_aload_n (pc := 16) hK 0 dX8_passNumber_16 rfl (z_getR (pc := 17) hK f_X8_9_7 ht0 dX8_passNumber_17 (z_aload_n (pc := 20) hK 0 dX8_passNumber_20 rfl (z_getI (pc := 21) hK f_X8_17_7 ht0 dX8_passNumber_21 (z_cald (pc := 24) hK (zt_7_0 ht0) c_3 dX8_passNumber_24 (z_callSi (pc := 25) hK [.int (h.1 (zR t0 0) (zx (h.1 t0 5)))] (m_X8_isNumeral (zC_D hK) qv_4) ss_X8_isNumeral q_603 rfl [] rfl (Nat.le_of_ble_eq_true rfl) ⟨by decide, by decide⟩ dX8_passNumber_25 (z_if_eq (pc := 28) hK 68 dX8_passNumber_28 (by decide) (fun c_5 => ?_) (fun c_5 => ?_)))))))
      · rw [if_pos c_5] at hg
        exact z_vretE (pc := 68) hK hE hg dX8_passNumber_68
      · rw [if_neg c_5] at hg
        obtain ⟨c_6, hg⟩ := zgu_some hg
        obtain ⟨h_7, eh_7, hg⟩ := zlet_some hg
        obtain ⟨h_8, eh_8, hg⟩ := zlet_some hg
        exact z_aload_n (pc := 31) hK 0 dX8_passNumber_31 rfl (z_aload_n (pc := 32) hK 0 dX8_passNumber_32 rfl (z_getI (pc := 33) hK f_X8_57_7 ht0 dX8_passNumber_33 (z_bipush (pc := 36) hK dX8_passNumber_36 zc_b10 (z_imul (pc := 38) hK dX8_passNumber_38 (z_aload_n (pc := 39) hK 0 dX8_passNumber_39 rfl (z_getR (pc := 40) hK f_X8_9_7 ht0 dX8_passNumber_40 (z_aload_n (pc := 43) hK 0 dX8_passNumber_43 rfl (z_getI (pc := 44) hK f_X8_17_7 ht0 dX8_passNumber_44 (z_cald (pc := 47) hK (zt_7_0 ht0) c_6 dX8_passNumber_47 (z_bipush (pc := 48) hK dX8_passNumber_48 zc_b48 (z_isub (pc := 50) hK dX8_passNumber_50 (z_iadd (pc := 51) hK dX8_passNumber_51 (z_putI (pc := 52) hK f_X8_57_7 fp_7_4 ht0 dX8_passNumber_52 (z_nameH eh_7 (z_aload_n (pc := 55) hK 0 dX8_passNumber_55 rfl (z_dup (pc := 56) hK dX8_passNumber_56 rfl (z_getI (pc := 57) hK f_X8_17_7 ht0 dX8_passNumber_57 (z_iconst (pc := 60) hK dX8_passNumber_60 zc_i1 (z_iadd (pc := 61) hK dX8_passNumber_61 (z_putI (pc := 62) hK f_X8_17_7 fp_7_5 ht0 dX8_passNumber_62 (z_nameH eh_8 (z_goto (pc := 65) hK 5 dX8_passNumber_65 (by decide) (zsub (lv' := [(0, .ref (G.2.2.2 t0))]) [0] rfl (ih h_8 hg))))))))))))))))))))))))
set_option maxRecDepth 100000 in
set_option maxHeartbeats 4000000 in
theorem b_X8_passNumber {K : zK} {G : zG} (hK : zC K G cX8_passNumber RX8 1 1 20 none) {h : zH} {t0 : Nat} (ht0 : zT t0 = (7, 0)) {r : zH} (hE : zE K G (none) r) (hg : g_X8_passNumber h t0 = some r) : zW K G 1 0 [(0, .ref (G.2.2.2 t0))] [] h := by
  rw [g_X8_passNumber] at hg
  obtain ⟨h_1, eh_1, hg⟩ := zlet_some hg
  exact z_aload_n (pc := 0) hK 0 dX8_passNumber_0 rfl (z_iconst (pc := 1) hK dX8_passNumber_1 zc_i0 (z_putI (pc := 2) hK f_X8_57_7 fp_7_4 ht0 dX8_passNumber_2 (z_nameH eh_1 (zsub (lv' := [(0, .ref (G.2.2.2 t0))]) [0] rfl (b_X8_passNumber_5 hK ht0 hE zfu h_1 hg)))))
theorem m_X8_passNumber {l : Launch} {G : zG} (hG : zD G) {h : zH} {t0 : Nat} (ht0 : zT t0 = (7, 0)) {r : zH} (hg : g_X8_passNumber h t0 = some r) : zM l G yX8_passNumber cX8_passNumber 1 none 1 20 [.ref (G.2.2.2 t0)] h (none) r :=
  zM_of hG pn_X8 (Nat.le_of_ble_eq_true rfl) (fun K _ hK hE => b_X8_passNumber hK ht0 hE hg)
