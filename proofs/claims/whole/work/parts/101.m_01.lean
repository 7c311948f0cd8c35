theorem dJ1_canEncode_9a6ad_0 : decode cJ1_canEncode_9a6ad 0 = .ok (.iload_n 0, 1) := by decide +kernel
theorem dJ1_canEncode_9a6ad_1 : decode cJ1_canEncode_9a6ad 1 = .ok (.ifCond .lt 14, 3) := by decide +kernel
theorem dJ1_canEncode_9a6ad_4 : decode cJ1_canEncode_9a6ad 4 = .ok (.iload_n 0, 1) := by decide +kernel
theorem dJ1_canEncode_9a6ad_5 : decode cJ1_canEncode_9a6ad 5 = .ok (.sipush 255, 3) := by decide +kernel
theorem dJ1_canEncode_9a6ad_8 : decode cJ1_canEncode_9a6ad 8 = .ok (.if_icmp .gt 7, 3) := by decide +kernel
theorem dJ1_canEncode_9a6ad_11 : decode cJ1_canEncode_9a6ad 11 = .ok (.iconst 1, 1) := by decide +kernel
theorem dJ1_canEncode_9a6ad_12 : decode cJ1_canEncode_9a6ad 12 = .ok (.goto 4, 3) := by decide +kernel
theorem dJ1_canEncode_9a6ad_15 : decode cJ1_canEncode_9a6ad 15 = .ok (.iconst 0, 1) := by decide +kernel
theorem dJ1_canEncode_9a6ad_16 : decode cJ1_canEncode_9a6ad 16 = .ok (.ireturn, 1) := by decide +kernel
def g_J1_canEncode_9a6ad (h : zH) (x0 : Int32) : Option Bool := if x0 < 0 then (some false) else (if 255 < x0 then (some false) else (some true))
set_option maxRecDepth 100000 in
set_option maxHeartbeats 4000000 in
theorem b_J1_canEncode_9a6ad {K : zK} {G : zG} (hK : zC K G cJ1_canEncode_9a6ad RJ1 1 0 0 (some .boolean)) {h : zH} {x0 : Int32}  {r : Bool} (hE : zE K G (some (.int (zb r))) h) (hg : g_J1_canEncode_9a6ad h x0 = some r) : zW K G 1 0 [(0, .int x0)] [] h := by
  rw [g_J1_canEncode_9a6ad] at hg
  refine z_iload_n (pc := 0) hK 0 dJ1_canEncode_9a6ad_0 rfl (z_if_lt (pc := 1) hK 15 dJ1_canEncode_9a6ad_1 (by decide) (fun c_1 => ?_) (fun c_1 => ?_))
  · rw [if_pos c_1] at hg
    exact z_iconst (pc := 15) hK dJ1_canEncode_9a6ad_15 zc_i0 (z_zretP (pc := 16) hK rfl hE hg dJ1_canEncode_9a6ad_16)
  · rw [if_neg c_1] at hg
    refine z_iload_n (pc := 4) hK 0 dJ1_canEncode_9a6ad_4 rfl (z_sipush (pc := 5) hK dJ1_canEncode_9a6ad_5 zc_s255 (z_icmp_gt (pc := 8) hK 15 dJ1_canEncode_9a6ad_8 (by decide) (fun c_2 => ?_) (fun c_2 => ?_)))
    · rw [if_pos c_2] at hg
      exact z_iconst (pc := 15) hK dJ1_canEncode_9a6ad_15 zc_i0 (z_zretP (pc := 16) hK rfl hE hg dJ1_canEncode_9a6ad_16)
    · rw [if_neg c_2] at hg
      exact z_iconst (pc := 11) hK dJ1_canEncode_9a6ad_11 zc_i1 (z_goto (pc := 12) hK 16 dJ1_canEncode_9a6ad_12 (by decide) (z_zretP (pc := 16) hK rfl hE hg dJ1_canEncode_9a6ad_16))
theorem m_J1_canEncode_9a6ad {l : Launch} {G : zG} (hG : zD G) {h : zH} {x0 : Int32}  {r : Bool} (hg : g_J1_canEncode_9a6ad h x0 = some r) : zM l G yJ1_canEncode_9a6ad cJ1_canEncode_9a6ad 1 (some .boolean) 0 0 [.int x0] h (some (.int (zb r))) h :=
  zM_of hG pn_J1 (Nat.le_of_ble_eq_true rfl) (fun K _ hK hE => b_J1_canEncode_9a6ad hK  hE hg)
theorem dJ1_indexOfChar_4cfef_0 : decode cJ1_indexOfChar_4cfef 0 = .ok (.iload_n 1, 1) := by decide +kernel
theorem dJ1_indexOfChar_4cfef_1 : decode cJ1_indexOfChar_4cfef 1 = .ok (.i2b, 1) := by decide +kernel
theorem dJ1_indexOfChar_4cfef_2 : decode cJ1_indexOfChar_4cfef 2 = .ok (.istore 4, 2) := by decide +kernel
theorem dJ1_indexOfChar_4cfef_4 : decode cJ1_indexOfChar_4cfef 4 = .ok (.iload_n 2, 1) := by decide +kernel
theorem dJ1_indexOfChar_4cfef_5 : decode cJ1_indexOfChar_4cfef 5 = .ok (.istore 5, 2) := by decide +kernel
theorem dJ1_indexOfChar_4cfef_7 : decode cJ1_indexOfChar_4cfef 7 = .ok (.iload 5, 2) := by decide +kernel
theorem dJ1_indexOfChar_4cfef_9 : decode cJ1_indexOfChar_4cfef 9 = .ok (.iload_n 3, 1) := by decide +kernel
theorem dJ1_indexOfChar_4cfef_10 : decode cJ1_indexOfChar_4cfef 10 = .ok (.if_icmp .ge 21, 3) := by decide +kernel
theorem dJ1_indexOfChar_4cfef_13 : decode cJ1_indexOfChar_4cfef 13 = .ok (.aload_n 0, 1) := by decide +kernel
theorem dJ1_indexOfChar_4cfef_14 : decode cJ1_indexOfChar_4cfef 14 = .ok (.iload 5, 2) := by decide +kernel
theorem dJ1_indexOfChar_4cfef_16 : decode cJ1_indexOfChar_4cfef 16 = .ok (.baload, 1) := by decide +kernel
theorem dJ1_indexOfChar_4cfef_17 : decode cJ1_indexOfChar_4cfef 17 = .ok (.iload 4, 2) := by decide +kernel
theorem dJ1_indexOfChar_4cfef_19 : decode cJ1_indexOfChar_4cfef 19 = .ok (.if_icmp .ne 6, 3) := by decide +kernel
theorem dJ1_indexOfChar_4cfef_22 : decode cJ1_indexOfChar_4cfef 22 = .ok (.iload 5, 2) := by decide +kernel
theorem dJ1_indexOfChar_4cfef_24 : decode cJ1_indexOfChar_4cfef 24 = .ok (.ireturn, 1) := by decide +kernel
theorem dJ1_indexOfChar_4cfef_25 : decode cJ1_indexOfChar_4cfef 25 = .ok (.iinc 5 1, 3) := by decide +kernel
theorem dJ1_indexOfChar_4cfef_28 : decode cJ1_indexOfChar_4cfef 28 = .ok (.goto (-21), 3) := by decide +kernel
theorem dJ1_indexOfChar_4cfef_31 : decode cJ1_indexOfChar_4cfef 31 = .ok (.iconst (-1), 1) := by decide +kernel
theorem dJ1_indexOfChar_4cfef_32 : decode cJ1_indexOfChar_4cfef 32 = .ok (.ireturn, 1) := by decide +kernel
def g_J1_indexOfChar_4cfef_7 (h : zH) (t0 : Nat)  : Nat → Int32 → Int32 → Int32 → Option Int32
  | 0, _, _, _ => none
  | n + 1, x3, x4, x5 => if x3 ≤ x5 then (some (-1)) else (zgu (zin x5 (zlen.getD t0 0)) <| if ((zbyt.getD t0 []).getD (zx x5) 0) = x4 then (some x5) else (g_J1_indexOfChar_4cfef_7 h t0 n x3 x4 (x5 + 1)))
def g_J1_indexOfChar_4cfef (h : zH) (t0 : Nat) (x1 : Int32) (x2 : Int32) (x3 : Int32) : Option Int32 := g_J1_indexOfChar_4cfef_7 h t0 zfu x3 x1.toInt8.toInt32 x2
set_option maxRecDepth 100000 in
set_option maxHeartbeats 4000000 in
theorem b_J1_indexOfChar_4cfef_7 {K : zK} {G : zG} (hK : zC K G cJ1_indexOfChar_4cfef RJ1 6 0 0 (some .int)) {h : zH} {t0 : Nat} (ht0 : t0 < 2) {r : Int32} (hE : zE K G (some (.int r)) h) : ∀ (n : Nat) (x3 : Int32) (x4 : Int32) (x5 : Int32), g_J1_indexOfChar_4cfef_7 h t0 n x3 x4 x5 = some r → zW K G 6 7 [(0, .ref (zv G t0)), (3, .int x3), (4, .int x4), (5, .int x5)] [] h := by
  intro n
  induction n with
  | zero => intro x3 x4 x5 hg; exact nomatch (show none = some r from hg)
  | succ n ih =>
    intro x3 x4 x5 hg
    rw [g_J1_indexOfChar_4cfef_7] at hg
    refine z_iload (pc := 7) hK 3 dJ1_indexOfChar_4cfef_7 rfl (z_iload_n (pc := 9) hK 1 dJ1_indexOfChar_4cfef_9 rfl (z_icmp_ge (pc := 10) hK 31 dJ1_indexOfChar_4cfef_10 (by decide) (fun c_1 => ?_) (fun c_1 => ?_)))
    · rw [if_pos c_1] at hg
      exact z_iconst (pc := 31) hK dJ1_indexOfChar_4cfef_31 zc_im1 (z_iretP (pc := 32) hK hE hg dJ1_indexOfChar_4cfef_32)
    · rw [if_neg c_1] at hg
      obtain ⟨c_2, hg⟩ := zgu_some hg
      refine z_aload_n (pc := 13) hK 0 dJ1_indexOfChar_4cfef_13 rfl (z_iload (pc := 14) hK 3 dJ1_indexOfChar_4cfef_14 rfl (z_bald (pc := 16) hK ht0 c_2 dJ1_indexOfChar_4cfef_16 (z_iload (pc := 17) hK 2 dJ1_indexOfChar_4cfef_17 rfl (z_icmp_ne (pc := 19) hK 25 dJ1_indexOfChar_4cfef_19 (by decide) (fun c_3 => ?_) (fun c_3 => ?_)))))
      · rw [if_neg c_3] at hg
        exact z_iinc (pc := 25) hK 3 (lv' := [(5, .int (x5 + 1)), (0, .ref (zv G t0)), (3, .int x3), (4, .int x4)]) dJ1_indexOfChar_4cfef_25 rfl (zc_n1 _) (by decide) rfl (z_goto (pc := 28) hK 7 dJ1_indexOfChar_4cfef_28 (by decide) (zsub (lv' := [(0, .ref (zv G t0)), (3, .int x3), (4, .int x4), (5, .int (x5 + 1))]) [1, 2, 3, 0] rfl (ih x3 x4 (x5 + 1) hg)))
      · rw [if_pos c_3] at hg
        exact z_iload (pc := 22) hK 3 dJ1_indexOfChar_4cfef_22 rfl (z_iretP (pc := 24) hK hE hg dJ1_indexOfChar_4cfef_24)
set_option maxRecDepth 100000 in
set_option maxHeartbeats 4000000 in
theorem b_J1_indexOfChar_4cfef {K : zK} {G : zG} (hK : zC K G cJ1_indexOfChar_4cfef RJ1 6 0 0 (some .int)) {h : zH} {t0 : Nat} {x1 : Int32} {x2 : Int32} {x3 : Int32} (ht0 : t0 < 2) {r : Int32} (hE : zE K G (some (.int r)) h) (hg : g_J1_indexOfChar_4cfef h t0 x1 x2 x3 = some r) : zW K G 6 0 [(0, .ref (zv G t0)), (1, .int x1), (2, .int x2), (3, .int x3)] [] h := by
  rw [g_J1_indexOfChar_4cfef] at hg
  exact z_iload_n (pc := 0) hK 1 dJ1_indexOfChar_4cfef_0 rfl (z_i2b (pc := 1) hK dJ1_indexOfChar_4cfef_1 rfl (z_istore (pc := 2) hK (lv' := [(4, .int x1.toInt8.toInt32), (0, .ref (zv G t0)), (1, .int x1), (2, .int x2), (3, .int x3)]) dJ1_indexOfChar_4cfef_2 (by decide) rfl (z_iload_n (pc := 4) hK 3 dJ1_indexOfChar_4cfef_4 rfl (z_istore (pc := 5) hK (lv' := [(5, .int x2), (4, .int x1.toInt8.toInt32), (0, .ref (zv G t0)), (1, .int x1), (2, .int x2), (3, .int x3)]) dJ1_indexOfChar_4cfef_5 (by decide) rfl (zsub (lv' := [(0, .ref (zv G t0)), (3, .int x3), (4, .int x1.toInt8.toInt32), (5, .int x2)]) [2, 5, 1, 0] rfl (b_J1_indexOfChar_4cfef_7 hK ht0 hE zfu x3 x1.toInt8.toInt32 x2 hg))))))
theorem m_J1_indexOfChar_4cfef {l : Launch} {G : zG} (hG : zD G) {h : zH} {t0 : Nat} {x1 : Int32} {x2 : Int32} {x3 : Int32} (ht0 : t0 < 2) {r : Int32} (hg : g_J1_indexOfChar_4cfef h t0 x1 x2 x3 = some r) : zM l G yJ1_indexOfChar_4cfef cJ1_indexOfChar_4cfef 6 (some .int) 0 0 [.ref (zv G t0), .int x1, .int x2, .int x3] h (some (.int r)) h :=
  zM_of hG pn_J1 (Nat.le_of_ble_eq_true rfl) (fun K _ hK hE => b_J1_indexOfChar_4cfef hK ht0 hE hg)
theorem dJ1_indexOf_4cfef_0 : decode cJ1_indexOf_4cfef 0 = .ok (.iload_n 1, 1) := by decide +kernel
theorem dJ1_indexOf_4cfef_1 : decode cJ1_indexOf_4cfef 1 = .ok (.invokestatic 88, 3) := by decide +kernel
theorem dJ1_indexOf_4cfef_4 : decode cJ1_indexOf_4cfef 4 = .ok (.ifCond .ne 5, 3) := by decide +kernel
theorem dJ1_indexOf_4cfef_7 : decode cJ1_indexOf_4cfef 7 = .ok (.iconst (-1), 1) := by decide +kernel
theorem dJ1_indexOf_4cfef_8 : decode cJ1_indexOf_4cfef 8 = .ok (.ireturn, 1) := by decide +kernel
theorem dJ1_indexOf_4cfef_9 : decode cJ1_indexOf_4cfef 9 = .ok (.iload_n 2, 1) := by decide +kernel
theorem dJ1_indexOf_4cfef_10 : decode cJ1_indexOf_4cfef 10 = .ok (.iconst 0, 1) := by decide +kernel
theorem dJ1_indexOf_4cfef_11 : decode cJ1_indexOf_4cfef 11 = .ok (.invokestatic 92, 3) := by decide +kernel
theorem dJ1_indexOf_4cfef_14 : decode cJ1_indexOf_4cfef 14 = .ok (.istore_n 2, 1) := by decide +kernel
theorem dJ1_indexOf_4cfef_15 : decode cJ1_indexOf_4cfef 15 = .ok (.iload_n 3, 1) := by decide +kernel
theorem dJ1_indexOf_4cfef_16 : decode cJ1_indexOf_4cfef 16 = .ok (.aload_n 0, 1) := by decide +kernel
theorem dJ1_indexOf_4cfef_17 : decode cJ1_indexOf_4cfef 17 = .ok (.arraylength, 1) := by decide +kernel
theorem dJ1_indexOf_4cfef_18 : decode cJ1_indexOf_4cfef 18 = .ok (.invokestatic 38, 3) := by decide +kernel
theorem dJ1_indexOf_4cfef_21 : decode cJ1_indexOf_4cfef 21 = .ok (.istore_n 3, 1) := by decide +kernel
theorem dJ1_indexOf_4cfef_22 : decode cJ1_indexOf_4cfef 22 = .ok (.iload_n 2, 1) := by decide +kernel
theorem dJ1_indexOf_4cfef_23 : decode cJ1_indexOf_4cfef 23 = .ok (.iload_n 3, 1) := by decide +kernel
theorem dJ1_indexOf_4cfef_24 : decode cJ1_indexOf_4cfef 24 = .ok (.if_icmp .lt 5, 3) := by decide +kernel
theorem dJ1_indexOf_4cfef_27 : decode cJ1_indexOf_4cfef 27 = .ok (.iconst (-1), 1) := by decide +kernel
theorem dJ1_indexOf_4cfef_28 : decode cJ1_indexOf_4cfef 28 = .ok (.ireturn, 1) := by decide +kernel
theorem dJ1_indexOf_4cfef_29 : decode cJ1_indexOf_4cfef 29 = .ok (.aload_n 0, 1) := by decide +kernel
theorem dJ1_indexOf_4cfef_30 : decode cJ1_indexOf_4cfef 30 = .ok (.iload_n 1, 1) := by decide +kernel
theorem dJ1_indexOf_4cfef_31 : decode cJ1_indexOf_4cfef 31 = .ok (.iload_n 2, 1) := by decide +kernel
theorem dJ1_indexOf_4cfef_32 : decode cJ1_indexOf_4cfef 32 = .ok (.iload_n 3, 1) := by decide +kernel
theorem dJ1_indexOf_4cfef_33 : decode cJ1_indexOf_4cfef 33 = .ok (.invokestatic 95, 3) := by decide +kernel
theorem dJ1_indexOf_4cfef_36 : decode cJ1_indexOf_4cfef 36 = .ok (.ireturn, 1) := by decide +kernel
def g_J1_indexOf_4cfef (h : zH) (t0 : Nat) (x1 : Int32) (x2 : Int32) (x3 : Int32) : Option Int32 := (g_J1_canEncode_9a6ad h x1).bind fun v_1 => if (zb v_1) = 0 then (some (-1)) else (zlet (if x2 < 0 then 0 else x2) fun v_3 => zlet (if (Int32.ofNat (zlen.getD t0 0)) < x3 then (Int32.ofNat (zlen.getD t0 0)) else x3) fun v_4 => if v_3 < v_4 then ((g_J1_indexOfChar_4cfef h t0 x1 v_3 v_4).bind fun v_6 => some v_6) else (some (-1)))
set_option maxRecDepth 100000 in
set_option maxHeartbeats 4000000 in
theorem b_J1_indexOf_4cfef {K : zK} {G : zG} (hK : zC K G cJ1_indexOf_4cfef RJ1 4 1 25 (some .int)) {h : zH} {t0 : Nat} {x1 : Int32} {x2 : Int32} {x3 : Int32} (ht0 : t0 < 2) {r : Int32} (hE : zE K G (some (.int r)) h) (hg : g_J1_indexOf_4cfef h t0 x1 x2 x3 = some r) : zW K G 4 0 [(0, .ref (zv G t0)), (1, .int x1), (2, .int x2), (3, .int x3)] [] h := by
  rw [g_J1_indexOf_4cfef] at hg
  obtain ⟨v_1, qv_1, hg⟩ := zbind_some hg
  refine z_iload_n (pc := 0) hK 1 dJ1_indexOf_4cfef_0 rfl (z_callSi (pc := 1) hK [.int x1] (m_J1_canEncode_9a6ad (zC_D hK) qv_1) ss_J1_canEncode_9a6ad q_623 rfl [] rfl (Nat.le_of_ble_eq_true rfl) ⟨by decide, by decide⟩ dJ1_indexOf_4cfef_1 (z_if_ne (pc := 4) hK 9 dJ1_indexOf_4cfef_4 (by decide) (fun c_2 => ?_) (fun c_2 => ?_)))
  · rw [if_neg c_2] at hg
    obtain ⟨v_3, ev_3, hg⟩ := zlet_some hg
    obtain ⟨v_4, ev_4, hg⟩ := zlet_some hg
    refine z_iload_n (pc := 9) hK 2 dJ1_indexOf_4cfef_9 rfl (z_iconst (pc := 10) hK dJ1_indexOf_4cfef_10 zc_i0 (z_mmax (pc := 11) hK q_626 zw_max ⟨by decide, Nat.le_of_ble_eq_true rfl⟩ dJ1_indexOf_4cfef_11 (z_nameI ev_3 (z_istore_n (pc := 14) hK (lv' := [(2, .int v_3), (0, .ref (zv G t0)), (1, .int x1), (3, .int x3)]) dJ1_indexOf_4cfef_14 (by decide) rfl (z_iload_n (pc := 15) hK 3 dJ1_indexOf_4cfef_15 rfl (z_aload_n (pc := 16) hK 1 dJ1_indexOf_4cfef_16 rfl (z_balen (pc := 17) hK ht0 dJ1_indexOf_4cfef_17 (z_mmin (pc := 18) hK q_629 zw_min ⟨by decide, Nat.le_of_ble_eq_true rfl⟩ dJ1_indexOf_4cfef_18 (z_nameI ev_4 (z_istore_n (pc := 21) hK (lv' := [(3, .int v_4), (2, .int v_3), (0, .ref (zv G t0)), (1, .int x1)]) dJ1_indexOf_4cfef_21 (by decide) rfl (z_iload_n (pc := 22) hK 1 dJ1_indexOf_4cfef_22 rfl (z_iload_n (pc := 23) hK 0 dJ1_indexOf_4cfef_23 rfl (z_icmp_lt (pc := 24) hK 29 dJ1_indexOf_4cfef_24 (by decide) (fun c_5 => ?_) (fun c_5 => ?_))))))))))))))
    · rw [if_pos c_5] at hg
      obtain ⟨v_6, qv_6, hg⟩ := zbind_some hg
      exact z_aload_n (pc := 29) hK 2 dJ1_indexOf_4cfef_29 rfl (z_iload_n (pc := 30) hK 3 dJ1_indexOf_4cfef_30 rfl (z_iload_n (pc := 31) hK 1 dJ1_indexOf_4cfef_31 rfl (z_iload_n (pc := 32) hK 0 dJ1_indexOf_4cfef_32 rfl (z_callSi (pc := 33) hK [.ref (zv G t0), .int x1, .int v_3, .int v_4] (m_J1_indexOfChar_4cfef (zC_D hK) ht0 qv_6) ss_J1_indexOfChar_4cfef q_632 rfl [] rfl (Nat.le_of_ble_eq_true rfl) ⟨by decide, by decide⟩ dJ1_indexOf_4cfef_33 (z_iretP (pc := 36) hK hE hg dJ1_indexOf_4cfef_36)))))
    · rw [if_neg c_5] at hg
      exact z_iconst (pc := 27) hK dJ1_indexOf_4cfef_27 zc_im1 (z_iretP (pc := 28) hK hE hg dJ1_indexOf_4cfef_28)
  · rw [if_pos c_2] at hg
    exact z_iconst (pc := 7) hK dJ1_indexOf_4cfef_7 zc_im1 (z_iretP (pc := 8) hK hE hg dJ1_indexOf_4cfef_8)
theorem m_J1_indexOf_4cfef {l : Launch} {G : zG} (hG : zD G) {h : zH} {t0 : Nat} {x1 : Int32} {x2 : Int32} {x3 : Int32} (ht0 : t0 < 2) {r : Int32} (hg : g_J1_indexOf_4cfef h t0 x1 x2 x3 = some r) : zM l G yJ1_indexOf_4cfef cJ1_indexOf_4cfef 4 (some .int) 1 25 [.ref (zv G t0), .int x1, .int x2, .int x3] h (some (.int r)) h :=
  zM_of hG pn_J1 (Nat.le_of_ble_eq_true rfl) (fun K _ hK hE => b_J1_indexOf_4cfef hK ht0 hE hg)
theorem dJ0_indexOf_7cf53_0 : decode cJ0_indexOf_7cf53 0 = .ok (.aload_n 0, 1) := by decide +kernel
theorem dJ0_indexOf_7cf53_1 : decode cJ0_indexOf_7cf53 1 = .ok (.invokevirtual 492, 3) := by decide +kernel
theorem dJ0_indexOf_7cf53_4 : decode cJ0_indexOf_7cf53 4 = .ok (.ifCond .eq 19, 3) := by decide +kernel
theorem dJ0_indexOf_7cf53_7 : decode cJ0_indexOf_7cf53 7 = .ok (.aload_n 0, 1) := by decide +kernel
theorem dJ0_indexOf_7cf53_8 : decode cJ0_indexOf_7cf53 8 = .ok (.getfield 9, 3) := by decide +kernel
theorem dJ0_indexOf_7cf53_11 : decode cJ0_indexOf_7cf53 11 = .ok (.iload_n 1, 1) := by decide +kernel
theorem dJ0_indexOf_7cf53_12 : decode cJ0_indexOf_7cf53 12 = .ok (.iload_n 2, 1) := by decide +kernel
theorem dJ0_indexOf_7cf53_13 : decode cJ0_indexOf_7cf53 13 = .ok (.aload_n 0, 1) := by decide +kernel
theorem dJ0_indexOf_7cf53_14 : decode cJ0_indexOf_7cf53 14 = .ok (.invokevirtual 505, 3) := by decide +kernel
theorem dJ0_indexOf_7cf53_17 : decode cJ0_indexOf_7cf53 17 = .ok (.invokestatic 637, 3) := by decide +kernel
theorem dJ0_indexOf_7cf53_20 : decode cJ0_indexOf_7cf53 20 = .ok (.goto 16, 3) := by decide +kernel
theorem dJ0_indexOf_7cf53_36 : decode cJ0_indexOf_7cf53 36 = .ok (.ireturn, 1) := by decide +kernel
def g_J0_indexOf_7cf53 (h : zH) (t0 : Nat) (x1 : Int32) (x2 : Int32) : Option Int32 := (g_J0_length_8abf5 h t0).bind fun v_1 => (g_J1_indexOf_4cfef h t0 x1 x2 v_1).bind fun v_2 => some v_2
set_option maxRecDepth 100000 in
set_option maxHeartbeats 4000000 in
theorem b_J0_indexOf_7cf53 {K : zK} {G : zG} (hK : zC K G cJ0_indexOf_7cf53 RJ0 3 2 48 (some .int)) {h : zH} {t0 : Nat} {x1 : Int32} {x2 : Int32} (ht0 : t0 < 2) {r : Int32} (hE : zE K G (some (.int r)) h) (hg : g_J0_indexOf_7cf53 h t0 x1 x2 = some r) : zW K G 3 0 [(0, .ref (zk G t0)), (1, .int x1), (2, .int x2)] [] h := by
  rw [g_J0_indexOf_7cf53] at hg
  obtain ⟨v_1, qv_1, hg⟩ := zbind_some hg
  obtain ⟨v_2, qv_2, hg⟩ := zbind_some hg
  exact z_aload_n (pc := 0) hK 0 dJ0_indexOf_7cf53_0 rfl (z_callTi (pc := 1) hK [] (m_J0_isLatin1_aae02 (zC_D hK) ht0 (show g_J0_isLatin1_aae02 h t0 = some true from rfl)) st_J0_isLatin1_aae02 q_569 ht0 rfl [] rfl (Nat.le_of_ble_eq_true rfl) ⟨by decide, by decide⟩ dJ0_indexOf_7cf53_1 (z_if_eq (kt := fun c => absurd c (by decide)) (pc := 4) hK 23 dJ0_indexOf_7cf53_4 (by decide) <| fun _ => (z_aload_n (pc := 7) hK 0 dJ0_indexOf_7cf53_7 rfl (z_sgetV (pc := 8) hK ht0 q_1921 dJ0_indexOf_7cf53_8 (z_iload_n (pc := 11) hK 1 dJ0_indexOf_7cf53_11 rfl (z_iload_n (pc := 12) hK 2 dJ0_indexOf_7cf53_12 rfl (z_aload_n (pc := 13) hK 0 dJ0_indexOf_7cf53_13 rfl (z_callTi (pc := 14) hK [] (m_J0_length_8abf5 (zC_D hK) ht0 qv_1) st_J0_length_8abf5 q_619 ht0 rfl [.int x2, .int x1, .ref (zv G t0)] rfl (Nat.le_of_ble_eq_true rfl) ⟨by decide, by decide⟩ dJ0_indexOf_7cf53_14 (z_callSi (pc := 17) hK [.ref (zv G t0), .int x1, .int x2, .int v_1] (m_J1_indexOf_4cfef (zC_D hK) ht0 qv_2) ss_J1_indexOf_4cfef q_620 rfl [] rfl (Nat.le_of_ble_eq_true rfl) ⟨by decide, by decide⟩ dJ0_indexOf_7cf53_17 (z_goto (pc := 20) hK 36 dJ0_indexOf_7cf53_20 (by decide) (z_iretP (pc := 36) hK hE hg dJ0_indexOf_7cf53_36)))))))))))
theorem m_J0_indexOf_7cf53 {l : Launch} {G : zG} (hG : zD G) {h : zH} {t0 : Nat} {x1 : Int32} {x2 : Int32} (ht0 : t0 < 2) {r : Int32} (hg : g_J0_indexOf_7cf53 h t0 x1 x2 = some r) : zM l G yJ0_indexOf_7cf53 cJ0_indexOf_7cf53 3 (some .int) 2 48 [.ref (zk G t0), .int x1, .int x2] h (some (.int r)) h :=
  zM_of hG pn_J0 (Nat.le_of_ble_eq_true rfl) (fun K _ hK hE => b_J0_indexOf_7cf53 hK ht0 hE hg)
theorem dJ0_indexOf_0f7a4_0 : decode cJ0_indexOf_0f7a4 0 = .ok (.aload_n 0, 1) := by decide +kernel
theorem dJ0_indexOf_0f7a4_1 : decode cJ0_indexOf_0f7a4 1 = .ok (.iload_n 1, 1) := by decide +kernel
theorem dJ0_indexOf_0f7a4_2 : decode cJ0_indexOf_0f7a4 2 = .ok (.iconst 0, 1) := by decide +kernel
theorem dJ0_indexOf_0f7a4_3 : decode cJ0_indexOf_0f7a4 3 = .ok (.invokevirtual 633, 3) := by decide +kernel
theorem dJ0_indexOf_0f7a4_6 : decode cJ0_indexOf_0f7a4 6 = .ok (.ireturn, 1) := by decide +kernel
def g_J0_indexOf_0f7a4 (h : zH) (t0 : Nat) (x1 : Int32) : Option Int32 := (g_J0_indexOf_7cf53 h t0 x1 0).bind fun v_1 => some v_1
set_option maxRecDepth 100000 in
set_option maxHeartbeats 4000000 in
theorem b_J0_indexOf_0f7a4 {K : zK} {G : zG} (hK : zC K G cJ0_indexOf_0f7a4 RJ0 2 3 70 (some .int)) {h : zH} {t0 : Nat} {x1 : Int32} (ht0 : t0 < 2) {r : Int32} (hE : zE K G (some (.int r)) h) (hg : g_J0_indexOf_0f7a4 h t0 x1 = some r) : zW K G 2 0 [(0, .ref (zk G t0)), (1, .int x1)] [] h := by
  rw [g_J0_indexOf_0f7a4] at hg
  obtain ⟨v_1, qv_1, hg⟩ := zbind_some hg
  exact z_aload_n (pc := 0) hK 0 dJ0_indexOf_0f7a4_0 rfl (z_iload_n (pc := 1) hK 1 dJ0_indexOf_0f7a4_1 rfl (z_iconst (pc := 2) hK dJ0_indexOf_0f7a4_2 zc_i0 (z_callTi (pc := 3) hK [.int x1, .int 0] (m_J0_indexOf_7cf53 (zC_D hK) ht0 qv_1) st_J0_indexOf_7cf53 q_615 ht0 rfl [] rfl (Nat.le_of_ble_eq_true rfl) ⟨by decide, by decide⟩ dJ0_indexOf_0f7a4_3 (z_iretP (pc := 6) hK hE hg dJ0_indexOf_0f7a4_6))))
theorem m_J0_indexOf_0f7a4 {l : Launch} {G : zG} (hG : zD G) {h : zH} {t0 : Nat} {x1 : Int32} (ht0 : t0 < 2) {r : Int32} (hg : g_J0_indexOf_0f7a4 h t0 x1 = some r) : zM l G yJ0_indexOf_0f7a4 cJ0_indexOf_0f7a4 2 (some .int) 3 70 [.ref (zk G t0), .int x1] h (some (.int r)) h :=
  zM_of hG pn_J0 (Nat.le_of_ble_eq_true rfl) (fun K _ hK hE => b_J0_indexOf_0f7a4 hK ht0 hE hg)
theorem dX8_lookAtNext_0 : decode cX8_lookAtNext 0 = .ok (.aload_n 0, 1) := by decide +kernel
theorem dX8_lookAtNext_1 : decode cX8_lookAtNext 1 = .ok (.aload_n 0, 1) := by decide +kernel
theorem dX8_lookAtNext_2 : decode cX8_lookAtNext 2 = .ok (.getfield 17, 3) := by decide +kernel
theorem dX8_lookAtNext_5 : decode cX8_lookAtNext 5 = .ok (.putfield 23, 3) := by decide +kernel
theorem dX8_lookAtNext_8 : decode cX8_lookAtNext 8 = .ok (.aload_n 0, 1) := by decide +kernel
theorem dX8_lookAtNext_9 : decode cX8_lookAtNext 9 = .ok (.getfield 23, 3) := by decide +kernel
theorem dX8_lookAtNext_12 : decode cX8_lookAtNext 12 = .ok (.aload_n 0, 1) := by decide +kernel
theorem dX8_lookAtNext_13 : decode cX8_lookAtNext 13 = .ok (.getfield 13, 3) := by decide +kernel
theorem dX8_lookAtNext_16 : decode cX8_lookAtNext 16 = .ok (.if_icmp .ge 31, 3) := by decide +kernel
theorem dX8_lookAtNext_19 : decode cX8_lookAtNext 19 = .ok (.aload_n 0, 1) := by decide +kernel
theorem dX8_lookAtNext_20 : decode cX8_lookAtNext 20 = .ok (.getfield 9, 3) := by decide +kernel
theorem dX8_lookAtNext_23 : decode cX8_lookAtNext 23 = .ok (.aload_n 0, 1) := by decide +kernel
theorem dX8_lookAtNext_24 : decode cX8_lookAtNext 24 = .ok (.getfield 23, 3) := by decide +kernel
theorem dX8_lookAtNext_27 : decode cX8_lookAtNext 27 = .ok (.caload, 1) := by decide +kernel
theorem dX8_lookAtNext_28 : decode cX8_lookAtNext 28 = .ok (.invokestatic 26, 3) := by decide +kernel
theorem dX8_lookAtNext_31 : decode cX8_lookAtNext 31 = .ok (.ifCond .eq 16, 3) := by decide +kernel
theorem dX8_lookAtNext_34 : decode cX8_lookAtNext 34 = .ok (.aload_n 0, 1) := by decide +kernel
theorem dX8_lookAtNext_35 : decode cX8_lookAtNext 35 = .ok (.dup, 1) := by decide +kernel
theorem dX8_lookAtNext_36 : decode cX8_lookAtNext 36 = .ok (.getfield 23, 3) := by decide +kernel
theorem dX8_lookAtNext_39 : decode cX8_lookAtNext 39 = .ok (.iconst 1, 1) := by decide +kernel
theorem dX8_lookAtNext_40 : decode cX8_lookAtNext 40 = .ok (.iadd, 1) := by decide +kernel
theorem dX8_lookAtNext_41 : decode cX8_lookAtNext 41 = .ok (.putfield 23, 3) := by decide +kernel
theorem dX8_lookAtNext_44 : decode cX8_lookAtNext 44 = .ok (.goto (-36), 3) := by decide +kernel
theorem dX8_lookAtNext_47 : decode cX8_lookAtNext 47 = .ok (.aload_n 0, 1) := by decide +kernel
theorem dX8_lookAtNext_48 : decode cX8_lookAtNext 48 = .ok (.aload_n 0, 1) := by decide +kernel
theorem dX8_lookAtNext_49 : decode cX8_lookAtNext 49 = .ok (.getfield 23, 3) := by decide +kernel
theorem dX8_lookAtNext_52 : decode cX8_lookAtNext 52 = .ok (.putfield 17, 3) := by decide +kernel
theorem dX8_lookAtNext_55 : decode cX8_lookAtNext 55 = .ok (.aload_n 0, 1) := by decide +kernel
theorem dX8_lookAtNext_56 : decode cX8_lookAtNext 56 = .ok (.getfield 23, 3) := by decide +kernel
theorem dX8_lookAtNext_59 : decode cX8_lookAtNext 59 = .ok (.aload_n 0, 1) := by decide +kernel
theorem dX8_lookAtNext_60 : decode cX8_lookAtNext 60 = .ok (.getfield 13, 3) := by decide +kernel
theorem dX8_lookAtNext_63 : decode cX8_lookAtNext 63 = .ok (.if_icmp .lt 11, 3) := by decide +kernel
theorem dX8_lookAtNext_66 : decode cX8_lookAtNext 66 = .ok (.aload_n 0, 1) := by decide +kernel
theorem dX8_lookAtNext_67 : decode cX8_lookAtNext 67 = .ok (.iconst 0, 1) := by decide +kernel
theorem dX8_lookAtNext_68 : decode cX8_lookAtNext 68 = .ok (.putfield 30, 3) := by decide +kernel
theorem dX8_lookAtNext_71 : decode cX8_lookAtNext 71 = .ok (.goto 135, 3) := by decide +kernel
theorem dX8_lookAtNext_74 : decode cX8_lookAtNext 74 = .ok (.aload_n 0, 1) := by decide +kernel
theorem dX8_lookAtNext_75 : decode cX8_lookAtNext 75 = .ok (.getfield 9, 3) := by decide +kernel
theorem dX8_lookAtNext_78 : decode cX8_lookAtNext 78 = .ok (.aload_n 0, 1) := by decide +kernel
theorem dX8_lookAtNext_79 : decode cX8_lookAtNext 79 = .ok (.getfield 23, 3) := by decide +kernel
theorem dX8_lookAtNext_82 : decode cX8_lookAtNext 82 = .ok (.caload, 1) := by decide +kernel
theorem dX8_lookAtNext_83 : decode cX8_lookAtNext 83 = .ok (.invokestatic 33, 3) := by decide +kernel
theorem dX8_lookAtNext_86 : decode cX8_lookAtNext 86 = .ok (.ifCond .eq 36, 3) := by decide +kernel
theorem dX8_lookAtNext_89 : decode cX8_lookAtNext 89 = .ok (.aload_n 0, 1) := by decide +kernel
theorem dX8_lookAtNext_90 : decode cX8_lookAtNext 90 = .ok (.invokevirtual 36, 3) := by decide +kernel
theorem dX8_lookAtNext_93 : decode cX8_lookAtNext 93 = .ok (.aload_n 0, 1) := by decide +kernel
theorem dX8_lookAtNext_94 : decode cX8_lookAtNext 94 = .ok (.aload_n 0, 1) := by decide +kernel
theorem dX8_lookAtNext_95 : decode cX8_lookAtNext 95 = .ok (.getfield 17, 3) := by decide +kernel
theorem dX8_lookAtNext_98 : decode cX8_lookAtNext 98 = .ok (.aload_n 0, 1) := by decide +kernel
theorem dX8_lookAtNext_99 : decode cX8_lookAtNext 99 = .ok (.getfield 23, 3) := by decide +kernel
theorem dX8_lookAtNext_102 : decode cX8_lookAtNext 102 = .ok (.isub, 1) := by decide +kernel
theorem dX8_lookAtNext_103 : decode cX8_lookAtNext 103 = .ok (.bipush 8, 2) := by decide +kernel
theorem dX8_lookAtNext_105 : decode cX8_lookAtNext 105 = .ok (.if_icmp .gt 10, 3) := by decide +kernel
theorem dX8_lookAtNext_108 : decode cX8_lookAtNext 108 = .ok (.aload_n 0, 1) := by decide +kernel
theorem dX8_lookAtNext_109 : decode cX8_lookAtNext 109 = .ok (.invokevirtual 39, 3) := by decide +kernel
theorem dX8_lookAtNext_112 : decode cX8_lookAtNext 112 = .ok (.goto 4, 3) := by decide +kernel
theorem dX8_lookAtNext_115 : decode cX8_lookAtNext 115 = .ok (.iconst 1, 1) := by decide +kernel
theorem dX8_lookAtNext_116 : decode cX8_lookAtNext 116 = .ok (.putfield 30, 3) := by decide +kernel
theorem dX8_lookAtNext_119 : decode cX8_lookAtNext 119 = .ok (.goto 87, 3) := by decide +kernel
theorem dX8_lookAtNext_122 : decode cX8_lookAtNext 122 = .ok (.aload_n 0, 1) := by decide +kernel
theorem dX8_lookAtNext_123 : decode cX8_lookAtNext 123 = .ok (.getfield 9, 3) := by decide +kernel
theorem dX8_lookAtNext_126 : decode cX8_lookAtNext 126 = .ok (.aload_n 0, 1) := by decide +kernel
theorem dX8_lookAtNext_127 : decode cX8_lookAtNext 127 = .ok (.getfield 23, 3) := by decide +kernel
theorem dX8_lookAtNext_130 : decode cX8_lookAtNext 130 = .ok (.caload, 1) := by decide +kernel
theorem dX8_lookAtNext_131 : decode cX8_lookAtNext 131 = .ok (.invokestatic 43, 3) := by decide +kernel
theorem dX8_lookAtNext_134 : decode cX8_lookAtNext 134 = .ok (.ifCond .eq 32, 3) := by decide +kernel
theorem dX8_lookAtNext_137 : decode cX8_lookAtNext 137 = .ok (.aload_n 0, 1) := by decide +kernel
theorem dX8_lookAtNext_138 : decode cX8_lookAtNext 138 = .ok (.invokevirtual 46, 3) := by decide +kernel
theorem dX8_lookAtNext_141 : decode cX8_lookAtNext 141 = .ok (.aload_n 0, 1) := by decide +kernel
theorem dX8_lookAtNext_142 : decode cX8_lookAtNext 142 = .ok (.aload_n 0, 1) := by decide +kernel
theorem dX8_lookAtNext_143 : decode cX8_lookAtNext 143 = .ok (.getfield 17, 3) := by decide +kernel
theorem dX8_lookAtNext_146 : decode cX8_lookAtNext 146 = .ok (.aload_n 0, 1) := by decide +kernel
theorem dX8_lookAtNext_147 : decode cX8_lookAtNext 147 = .ok (.getfield 23, 3) := by decide +kernel
theorem dX8_lookAtNext_150 : decode cX8_lookAtNext 150 = .ok (.isub, 1) := by decide +kernel
theorem dX8_lookAtNext_151 : decode cX8_lookAtNext 151 = .ok (.iconst 4, 1) := by decide +kernel
theorem dX8_lookAtNext_152 : decode cX8_lookAtNext 152 = .ok (.if_icmp .gt 7, 3) := by decide +kernel
theorem dX8_lookAtNext_155 : decode cX8_lookAtNext 155 = .ok (.iconst 3, 1) := by decide +kernel
theorem dX8_lookAtNext_156 : decode cX8_lookAtNext 156 = .ok (.goto 4, 3) := by decide +kernel
theorem dX8_lookAtNext_159 : decode cX8_lookAtNext 159 = .ok (.iconst 1, 1) := by decide +kernel
theorem dX8_lookAtNext_160 : decode cX8_lookAtNext 160 = .ok (.putfield 30, 3) := by decide +kernel
theorem dX8_lookAtNext_163 : decode cX8_lookAtNext 163 = .ok (.goto 43, 3) := by decide +kernel
theorem dX8_lookAtNext_166 : decode cX8_lookAtNext 166 = .ok (.ldc 49, 2) := by decide +kernel
theorem dX8_lookAtNext_168 : decode cX8_lookAtNext 168 = .ok (.aload_n 0, 1) := by decide +kernel
theorem dX8_lookAtNext_169 : decode cX8_lookAtNext 169 = .ok (.getfield 9, 3) := by decide +kernel
theorem dX8_lookAtNext_172 : decode cX8_lookAtNext 172 = .ok (.aload_n 0, 1) := by decide +kernel
theorem dX8_lookAtNext_173 : decode cX8_lookAtNext 173 = .ok (.getfield 23, 3) := by decide +kernel
theorem dX8_lookAtNext_176 : decode cX8_lookAtNext 176 = .ok (.caload, 1) := by decide +kernel
theorem dX8_lookAtNext_177 : decode cX8_lookAtNext 177 = .ok (.invokevirtual 51, 3) := by decide +kernel
theorem dX8_lookAtNext_180 : decode cX8_lookAtNext 180 = .ok (.istore_n 1, 1) := by decide +kernel
theorem dX8_lookAtNext_181 : decode cX8_lookAtNext 181 = .ok (.aload_n 0, 1) := by decide +kernel
theorem dX8_lookAtNext_182 : decode cX8_lookAtNext 182 = .ok (.iload_n 1, 1) := by decide +kernel
theorem dX8_lookAtNext_183 : decode cX8_lookAtNext 183 = .ok (.ifCond .lt 9, 3) := by decide +kernel
theorem dX8_lookAtNext_186 : decode cX8_lookAtNext 186 = .ok (.iconst 4, 1) := by decide +kernel
theorem dX8_lookAtNext_187 : decode cX8_lookAtNext 187 = .ok (.iload_n 1, 1) := by decide +kernel
theorem dX8_lookAtNext_188 : decode cX8_lookAtNext 188 = .ok (.iadd, 1) := by decide +kernel
theorem dX8_lookAtNext_189 : decode cX8_lookAtNext 189 = .ok (.goto 4, 3) := by decide +kernel
theorem dX8_lookAtNext_192 : decode cX8_lookAtNext 192 = .ok (.iconst 1, 1) := by decide +kernel
theorem dX8_lookAtNext_193 : decode cX8_lookAtNext 193 = .ok (.putfield 30, 3) := by decide +kernel
theorem dX8_lookAtNext_196 : decode cX8_lookAtNext 196 = .ok (.aload_n 0, 1) := by decide +kernel
theorem dX8_lookAtNext_197 : decode cX8_lookAtNext 197 = .ok (.dup, 1) := by decide +kernel
theorem dX8_lookAtNext_198 : decode cX8_lookAtNext 198 = .ok (.getfield 17, 3) := by decide +kernel
theorem dX8_lookAtNext_201 : decode cX8_lookAtNext 201 = .ok (.iconst 1, 1) := by decide +kernel
theorem dX8_lookAtNext_202 : decode cX8_lookAtNext 202 = .ok (.iadd, 1) := by decide +kernel
theorem dX8_lookAtNext_203 : decode cX8_lookAtNext 203 = .ok (.putfield 17, 3) := by decide +kernel
theorem dX8_lookAtNext_206 : decode cX8_lookAtNext 206 = .ok (.return_, 1) := by decide +kernel
def g_X8_lookAtNext_160 (t0 : Nat)  (s0 : Int32) (h : zH) : Option zH := zlet (zpi h t0 2 s0) fun h_26 => some h_26
def g_X8_lookAtNext_193 (t0 : Nat)  (s0 : Int32) (h : zH) : Option zH := zlet (zpi h t0 2 s0) fun h_24 => zlet (zpi h_24 t0 5 ((h_24.1 t0 5) + 1)) fun h_25 => some h_25
def g_X8_lookAtNext_116 (t0 : Nat)  (s0 : Int32) (h : zH) : Option zH := zlet (zpi h t0 2 s0) fun h_27 => some h_27
def g_X8_lookAtNext_47 (t0 : Nat)  (h : zH) : Option zH := zlet (zpi h t0 5 (h.1 t0 3)) fun h_7 => if (h_7.1 t0 3) < (h_7.1 t0 1) then (zgu (zin (h_7.1 t0 3) 1000) <| (g_X8_isLetter h_7 (h_7.1 (zR t0 0) (zx (h_7.1 t0 3)))).bind fun v_10 => if (zb v_10) = 0 then (zgu (zin (h_7.1 t0 3) 1000) <| (g_X8_isNumeral h_7 (h_7.1 (zR t0 0) (zx (h_7.1 t0 3)))).bind fun v_13 => if (zb v_13) = 0 then (zgu (zin (h_7.1 t0 3) 1000) <| (g_J0_indexOf_0f7a4 h_7 0 (h_7.1 (zR t0 0) (zx (h_7.1 t0 3)))).bind fun v_16 => if v_16 < 0 then (g_X8_lookAtNext_193 t0 1 h_7) else (g_X8_lookAtNext_193 t0 (4 + v_16) h_7)) else ((g_X8_passNumber h_7 t0).bind fun v_18 => if 4 < ((v_18.1 t0 5) - (v_18.1 t0 3)) then (g_X8_lookAtNext_160 t0 1 v_18) else (g_X8_lookAtNext_160 t0 3 v_18))) else ((g_X8_passWord h_7 t0).bind fun v_20 => if 8 < ((v_20.1 t0 5) - (v_20.1 t0 3)) then (g_X8_lookAtNext_116 t0 1 v_20) else ((g_X8_wordToken v_20 t0).bind fun v_22 => g_X8_lookAtNext_116 t0 v_22 v_20))) else (zlet (zpi h_7 t0 2 0) fun h_23 => some h_23)
def g_X8_lookAtNext_8 (t0 : Nat)  : Nat → zH → Option zH
  | 0, _ => none
  | n + 1, h => if (h.1 t0 1) ≤ (h.1 t0 3) then (g_X8_lookAtNext_47 t0 h) else (zgu (zin (h.1 t0 3) 1000) <| (g_X8_isBlank h (h.1 (zR t0 0) (zx (h.1 t0 3)))).bind fun v_4 => if (zb v_4) = 0 then (g_X8_lookAtNext_47 t0 h) else (zlet (zpi h t0 3 ((h.1 t0 3) + 1)) fun h_6 => g_X8_lookAtNext_8 t0 n h_6))
def g_X8_lookAtNext (h : zH) (t0 : Nat) : Option zH := zlet (zpi h t0 3 (h.1 t0 5)) fun h_1 => g_X8_lookAtNext_8 t0 zfu h_1
set_option maxRecDepth 100000 in
set_option maxHeartbeats 4000000 in
theorem b_X8_lookAtNext_160 {K : zK} {G : zG} (hK : zC K G cX8_lookAtNext RX8 2 5 109 none) {t0 : Nat} (ht0 : zT t0 = (7, 0)) {r : zH} (hE : zE K G (none) r) (s0 : Int32) (h : zH) (hg : g_X8_lookAtNext_160 t0 s0 h = some r) : zW K G 2 160 [] [.int s0, .ref (G.2.2.2 t0)] h := by
  rw [g_X8_lookAtNext_160] at hg
  obtain ⟨h_26, eh_26, hg⟩ := zlet_some hg
  exact z_putI (pc := 160) hK f_X8_30_7 fp_7_2 ht0 dX8_lookAtNext_160 (z_nameH eh_26 (z_goto (pc := 163) hK 206 dX8_lookAtNext_163 (by decide) (z_vretE (pc := 206) hK hE hg dX8_lookAtNext_206)))
set_option maxRecDepth 100000 in
set_option maxHeartbeats 4000000 in
theorem b_X8_lookAtNext_193 {K : zK} {G : zG} (hK : zC K G cX8_lookAtNext RX8 2 5 109 none) {t0 : Nat} (ht0 : zT t0 = (7, 0)) {r : zH} (hE : zE K G (none) r) (s0 : Int32) (h : zH) (hg : g_X8_lookAtNext_193 t0 s0 h = some r) : zW K G 2 193 [(0, .ref (G.2.2.2 t0))] [.int s0, .ref (G.2.2.2 t0)] h := by
  rw [g_X8_lookAtNext_193] at hg
  obtain ⟨h_24, eh_24, hg⟩ := zlet_some hg
  obtain ⟨h_25, eh_25, hg⟩ := zlet_some hg
  exact z_putI (pc := 193) hK f_X8_30_7 fp_7_2 ht0 dX8_lookAtNext_193 (z_nameH eh_24 (z_aload_n (pc := 196) hK 0 dX8_lookAtNext_196 rfl (z_dup (pc := 197) hK dX8_lookAtNext_197 rfl (z_getI (pc := 198) hK f_X8_17_7 ht0 dX8_lookAtNext_198 (z_iconst (pc := 201) hK dX8_lookAtNext_201 zc_i1 (z_iadd (pc := 202) hK dX8_lookAtNext_202 (z_putI (pc := 203) hK f_X8_17_7 fp_7_5 ht0 dX8_lookAtNext_203 (z_nameH eh_25 (z_vretE (pc := 206) hK hE hg dX8_lookAtNext_206)))))))))
set_option maxRecDepth 100000 in
set_option maxHeartbeats 4000000 in
theorem b_X8_lookAtNext_116 {K : zK} {G : zG} (hK : zC K G cX8_lookAtNext RX8 2 5 109 none) {t0 : Nat} (ht0 : zT t0 = (7, 0)) {r : zH} (hE : zE K G (none) r) (s0 : Int32) (h : zH) (hg : g_X8_lookAtNext_116 t0 s0 h = some r) : zW K G 2 116 [] [.int s0, .ref (G.2.2.2 t0)] h := by
  rw [g_X8_lookAtNext_116] at hg
  obtain ⟨h_27, eh_27, hg⟩ := zlet_some hg
  exact z_putI (pc := 116) hK f_X8_30_7 fp_7_2 ht0 dX8_lookAtNext_116 (z_nameH eh_27 (z_goto (pc := 119) hK 206 dX8_lookAtNext_119 (by decide) (z_vretE (pc := 206) hK hE hg dX8_lookAtNext_206)))
set_option maxRecDepth 100000 in
set_option maxHeartbeats 4000000 in
theorem b_X8_lookAtNext_47 {K : zK} {G : zG} (hK : zC K G cX8_lookAtNext RX8 2 5 109 none) {t0 : Nat} (ht0 : zT t0 = (7, 0)) {r : zH} (hE : zE K G (none) r) (h : zH) (hg : g_X8_lookAtNext_47 t0 h = some r) : zW K G 2 47 [(0, .ref (G.2.2.2 t0))] [] h := by
  rw [g_X8_lookAtNext_47] at hg
  obtain ⟨h_7, eh_7, hg⟩ := zlet_some hg
  refine z_aload_n (pc := 47) hK 0 dX8_lookAtNext_47 rfl (z_aload_n (pc := 48) hK 0 dX8_lookAtNext_48 rfl (z_getI (pc := 49) hK f_X8_23_7 ht0 dX8_lookAtNext_49 (z_putI (pc := 52) hK f_X8_17_7 fp_7_5 ht0 dX8_lookAtNext_52 (z_nameH eh_7 (z_aload_n (pc := 55) hK 0 dX8_lookAtNext_55 rfl (z_getI (pc := 56) hK f_X8_23_7 ht0 dX8_lookAtNext_56 (z_aload_n (pc := 59) hK 0 dX8_lookAtNext_59 rfl (z_getI (pc := 60) hK f_X8_13_7 ht0 dX8_lookAtNext_60 (z_icmp_lt (pc := 63) hK 74 dX8_lookAtNext_63 (by decide) (fun c_8 => ?_) (fun c_8 => ?_))))))))))
  · rw [if_pos c_8] at hg
    obtain ⟨c_9, hg⟩ := zgu_some hg
    obtain ⟨v_10, qv_10, hg⟩ := zbind_some hg
    refine z_aload_n (pc := 74) hK 0 dX8_lookAtNext_74 rfl (z_getR (pc := 75) hK f_X8_9_7 ht0 dX8_lookAtNext_75 (z_aload_n (pc := 78) hK 0 dX8_lookAtNext_78 rfl (z_getI (pc := 79) hK f_X8_23_7 ht0 dX8_lookAtNext_79 (z_cald (pc := 82) hK (zt_7_0 ht0) c_9 dX8_lookAtNext_82 (z_callSi (pc := 83) hK [.int (h_7.1 (zR t0 0) (zx (h_7.1 t0 3)))] (m_X8_isLetter (zC_D hK) qv_10) ss_X8_isLetter q_543 rfl [] rfl (Nat.le_of_ble_eq_true rfl) ⟨by decide, by decide⟩ dX8_lookAtNext_83 (z_if_eq (pc := 86) hK 122 dX8_lookAtNext_86 (by decide) (fun c_11 => ?_) (fun c_11 => ?_)))))))
    · rw [if_pos c_11] at hg
      obtain ⟨c_12, hg⟩ := zgu_some hg
      obtain ⟨v_13, qv_13, hg⟩ := zbind_some hg
      refine z_aload_n (pc := 122) hK 0 dX8_lookAtNext_122 rfl (z_getR (pc := 123) hK f_X8_9_7 ht0 dX8_lookAtNext_123 (z_aload_n (pc := 126) hK 0 dX8_lookAtNext_126 rfl (z_getI (pc := 127) hK f_X8_23_7 ht0 dX8_lookAtNext_127 (z_cald (pc := 130) hK (zt_7_0 ht0) c_12 dX8_lookAtNext_130 (z_callSi (pc := 131) hK [.int (h_7.1 (zR t0 0) (zx (h_7.1 t0 3)))] (m_X8_isNumeral (zC_D hK) qv_13) ss_X8_isNumeral q_603 rfl [] rfl (Nat.le_of_ble_eq_true rfl) ⟨by decide, by decide⟩ dX8_lookAtNext_131 (z_if_eq (pc := 134) hK 166 dX8_lookAtNext_134 (by decide) (fun c_14 => ?_) (fun c_14 => ?_)))))))
      · rw [if_pos c_14] at hg
        obtain ⟨c_15, hg⟩ := zgu_some hg
        obtain ⟨v_16, qv_16, hg⟩ := zbind_some hg
        refine z_ldcS0 (pc := 166) hK dX8_lookAtNext_166 (z_aload_n (pc := 168) hK 0 dX8_lookAtNext_168 rfl (z_getR (pc := 169) hK f_X8_9_7 ht0 dX8_lookAtNext_169 (z_aload_n (pc := 172) hK 0 dX8_lookAtNext_172 rfl (z_getI (pc := 173) hK f_X8_23_7 ht0 dX8_lookAtNext_173 (z_cald (pc := 176) hK (zt_7_0 ht0) c_15 dX8_lookAtNext_176 (z_callTi (pc := 177) hK [.int (h_7.1 (zR t0 0) (zx (h_7.1 t0 3)))] (m_J0_indexOf_0f7a4 (zC_D hK) (by decide) qv_16) st_J0_indexOf_0f7a4 q_611 (by decide) rfl [] rfl (Nat.le_of_ble_eq_true rfl) ⟨by decide, by decide⟩ dX8_lookAtNext_177 (z_istore_n (pc := 180) hK (lv' := [(1, .int v_16), (0, .ref (G.2.2.2 t0))]) dX8_lookAtNext_180 (by decide) rfl (z_aload_n (pc := 181) hK 1 dX8_lookAtNext_181 rfl (z_iload_n (pc := 182) hK 0 dX8_lookAtNext_182 rfl (z_if_lt (pc := 183) hK 192 dX8_lookAtNext_183 (by decide) (fun c_17 => ?_) (fun c_17 => ?_)))))))))))
        · rw [if_pos c_17] at hg
          exact z_iconst (pc := 192) hK dX8_lookAtNext_192 zc_i1 (zsub (lv' := [(0, .ref (G.2.2.2 t0))]) [1] rfl (b_X8_lookAtNext_193 hK ht0 hE 1 h_7 hg))
        · rw [if_neg c_17] at hg
          exact z_iconst (pc := 186) hK dX8_lookAtNext_186 zc_i4 (z_iload_n (pc := 187) hK 0 dX8_lookAtNext_187 rfl (z_iadd (pc := 188) hK dX8_lookAtNext_188 (z_goto (pc := 189) hK 193 dX8_lookAtNext_189 (by decide) (zsub (lv' := [(0, .ref (G.2.2.2 t0))]) [1] rfl (b_X8_lookAtNext_193 hK ht0 hE (4 + v_16) h_7 hg)))))
      · rw [if_neg c_14] at hg
        obtain ⟨v_18, qv_18, hg⟩ := zbind_some hg
        refine z_aload_n (pc := 137) hK 0 dX8_lookAtNext_137 rfl (z_callVv (pc := 138) hK [] (m_X8_passNumber (zC_D hK) ht0 qv_18) sv_X8_passNumber q_606 ht0 rfl [] rfl (Nat.le_of_ble_eq_true rfl) ⟨by decide, by decide⟩ dX8_lookAtNext_138 (z_aload_n (pc := 141) hK 0 dX8_lookAtNext_141 rfl (z_aload_n (pc := 142) hK 0 dX8_lookAtNext_142 rfl (z_getI (pc := 143) hK f_X8_17_7 ht0 dX8_lookAtNext_143 (z_aload_n (pc := 146) hK 0 dX8_lookAtNext_146 rfl (z_getI (pc := 147) hK f_X8_23_7 ht0 dX8_lookAtNext_147 (z_isub (pc := 150) hK dX8_lookAtNext_150 (z_iconst (pc := 151) hK dX8_lookAtNext_151 zc_i4 (z_icmp_gt (pc := 152) hK 159 dX8_lookAtNext_152 (by decide) (fun c_19 => ?_) (fun c_19 => ?_))))))))))
        · rw [if_pos c_19] at hg
          exact z_iconst (pc := 159) hK dX8_lookAtNext_159 zc_i1 (zsub (lv' := []) [] rfl (b_X8_lookAtNext_160 hK ht0 hE 1 v_18 hg))
        · rw [if_neg c_19] at hg
          exact z_iconst (pc := 155) hK dX8_lookAtNext_155 zc_i3 (z_goto (pc := 156) hK 160 dX8_lookAtNext_156 (by decide) (zsub (lv' := []) [] rfl (b_X8_lookAtNext_160 hK ht0 hE 3 v_18 hg)))
    · rw [if_neg c_11] at hg
      obtain ⟨v_20, qv_20, hg⟩ := zbind_some hg
      refine z_aload_n (pc := 89) hK 0 dX8_lookAtNext_89 rfl (z_callVv (pc := 90) hK [] (m_X8_passWord (zC_D hK) ht0 qv_20) sv_X8_passWord q_546 ht0 rfl [] rfl (Nat.le_of_ble_eq_true rfl) ⟨by decide, by decide⟩ dX8_lookAtNext_90 (z_aload_n (pc := 93) hK 0 dX8_lookAtNext_93 rfl (z_aload_n (pc := 94) hK 0 dX8_lookAtNext_94 rfl (z_getI (pc := 95) hK f_X8_17_7 ht0 dX8_lookAtNext_95 (z_aload_n (pc := 98) hK 0 dX8_lookAtNext_98 rfl (z_getI (pc := 99) hK f_X8_23_7 ht0 dX8_lookAtNext_99 (z_isub (pc := 102) hK dX8_lookAtNext_102 (z_bipush (pc := 103) hK dX8_lookAtNext_103 zc_b8 (z_icmp_gt (pc := 105) hK 115 dX8_lookAtNext_105 (by decide) (fun c_21 => ?_) (fun c_21 => ?_))))))))))
      · rw [if_pos c_21] at hg
        exact z_iconst (pc := 115) hK dX8_lookAtNext_115 zc_i1 (zsub (lv' := []) [] rfl (b_X8_lookAtNext_116 hK ht0 hE 1 v_20 hg))
      · rw [if_neg c_21] at hg
        obtain ⟨v_22, qv_22, hg⟩ := zbind_some hg
        exact z_aload_n (pc := 108) hK 0 dX8_lookAtNext_108 rfl (z_callVi (pc := 109) hK [] (m_X8_wordToken (zC_D hK) ht0 qv_22) sv_X8_wordToken q_550 ht0 rfl [.ref (G.2.2.2 t0)] rfl (Nat.le_of_ble_eq_true rfl) ⟨by decide, by decide⟩ dX8_lookAtNext_109 (z_goto (pc := 112) hK 116 dX8_lookAtNext_112 (by decide) (zsub (lv' := []) [] rfl (b_X8_lookAtNext_116 hK ht0 hE v_22 v_20 hg))))
  · rw [if_neg c_8] at hg
    obtain ⟨h_23, eh_23, hg⟩ := zlet_some hg
    exact z_aload_n (pc := 66) hK 0 dX8_lookAtNext_66 rfl (z_iconst (pc := 67) hK dX8_lookAtNext_67 zc_i0 (z_putI (pc := 68) hK f_X8_30_7 fp_7_2 ht0 dX8_lookAtNext_68 (z_nameH eh_23 (z_goto (pc := 71) hK 206 dX8_lookAtNext_71 (by decide) (z_vretE (pc := 206) hK hE hg dX8_lookAtNext_206)))))
set_option maxRecDepth 100000 in
set_option maxHeartbeats 4000000 in
theorem b_X8_lookAtNext_8 {K : zK} {G : zG} (hK : zC K G cX8_lookAtNext RX8 2 5 109 none) {t0 : Nat} (ht0 : zT t0 = (7, 0)) {r : zH} (hE : zE K G (none) r) : ∀ (n : Nat) (h : zH), g_X8_lookAtNext_8 t0 n h = some r → zW K G 2 8 [(0, .ref (G.2.2.2 t0))] [] h := by
  intro n
  induction n with
  | zero => intro h hg; exact nomatch (show none = some r from hg)
  | succ n ih =>
    intro h hg
    rw [g_X8_lookAtNext_8] at hg
    refine z_aload_n (pc := 8) hK 0 dX8_lookAtNext_8 rfl (z_getI (pc := 9) hK f_X8_23_7 ht0 dX8_lookAtNext_9 (z_aload_n (pc := 12) hK 0 dX8_lookAtNext_12 rfl (z_getI (pc := 13) hK f_X8_13_7 ht0 dX8_lookAtNext_13 (z_icmp_ge (pc := 16) hK 47 dX8_lookAtNext_16 (by decide) (fun c_2 => ?_) (fun c_2 => ?_)))))
    · rw [if_pos c_2] at hg
      exact zsub (lv' := [(0, .ref (G.2.2.2 t0))]) [0] rfl (b_X8_lookAtNext_47 hK ht0 hE h hg)
    · rw [if_neg c_2] at hg
      obtain ⟨c_3, hg⟩ := zgu_some hg
      obtain ⟨v_4, qv_4, hg⟩ := zbind_some hg
      refine z_aload_n (pc := 19) hK 0 dX8_lookAtNext_19 rfl (z_getR (pc := 20) hK f_X8_9_7 ht0 dX8_lookAtNext_20 (z_aload_n (pc := 23) hK 0 dX8_lookAtNext_23 rfl (z_getI (pc := 24) hK f_X8_23_7 ht0 dX8_lookAtNext_24 (z_cald (pc := 27) hK (zt_7_0 ht0) c_3 dX8_lookAtNext_27 (z_callSi (pc := 28) hK [.int (h.1 (zR t0 0) (zx (h.1 t0 3)))] (m_X8_isBlank (zC_D hK) qv_4) ss_X8_isBlank q_540 rfl [] rfl (Nat.le_of_ble_eq_true rfl) ⟨by decide, by decide⟩ dX8_lookAtNext_28 (z_if_eq (pc := 31) hK 47 dX8_lookAtNext_31 (by decide) (fun c_5 => ?_) (fun c_5 => ?_)))))))
      · rw [if_pos c_5] at hg
        exact zsub (lv' := [(0, .ref (G.2.2.2 t0))]) [0] rfl (b_X8_lookAtNext_47 hK ht0 hE h hg)
      · rw [if_neg c_5] at hg
        obtain ⟨h_6, eh_6, hg⟩ := zlet_some hg
        exact z_aload_n (pc := 34) hK 0 dX8_lookAtNext_34 rfl (z_dup (pc := 35) hK dX8_lookAtNext_35 rfl (z_getI (pc := 36) hK f_X8_23_7 ht0 dX8_lookAtNext_36 (z_iconst (pc := 39) hK dX8_lookAtNext_39 zc_i1 (z_iadd (pc := 40) hK dX8_lookAtNext_40 (z_putI (pc := 41) hK f_X8_23_7 fp_7_3 ht0 dX8_lookAtNext_41 (z_nameH eh_6 (z_goto (pc := 44) hK 8 dX8_lookAtNext_44 (by decide) (zsub (lv' := [(0, .ref (G.2.2.2 t0))]) [0] rfl (ih h_6 hg)))))))))
set_option maxRecDepth 100000 in
set_option maxHeartbeats 4000000 in
theorem b_X8_lookAtNext {K : zK} {G : zG} (hK : zC K G cX8_lookAtNext RX8 2 5 109 none) {h : zH} {t0 : Nat} (ht0 : zT t0 = (7, 0)) {r : zH} (hE : zE K G (none) r) (hg : g_X8_lookAtNext h t0 = some r) : zW K G 2 0 [(0, .ref (G.2.2.2 t0))] [] h := by
  rw [g_X8_lookAtNext] at hg
  obtain ⟨h_1, eh_1, hg⟩ := zlet_some hg
  exact z_aload_n (pc := 0) hK 0 dX8_lookAtNext_0 rfl (z_aload_n (pc := 1) hK 0 dX8_lookAtNext_1 rfl (z_getI (pc := 2) hK f_X8_17_7 ht0 dX8_lookAtNext_2 (z_putI (pc := 5) hK f_X8_23_7 fp_7_3 ht0 dX8_lookAtNext_5 (z_nameH eh_1 (zsub (lv' := [(0, .ref (G.2.2.2 t0))]) [0] rfl (b_X8_lookAtNext_8 hK ht0 hE zfu h_1 hg))))))
theorem m_X8_lookAtNext {l : Launch} {G : zG} (hG : zD G) {h : zH} {t0 : Nat} (ht0 : zT t0 = (7, 0)) {r : zH} (hg : g_X8_lookAtNext h t0 = some r) : zM l G yX8_lookAtNext cX8_lookAtNext 2 none 5 109 [.ref (G.2.2.2 t0)] h (none) r :=
  zM_of hG pn_X8 (Nat.le_of_ble_eq_true rfl) (fun K _ hK hE => b_X8_lookAtNext hK ht0 hE hg)
theorem dX0_readLaw_0 : decode cX0_readLaw 0 = .ok (.aload_n 0, 1) := by decide +kernel
theorem dX0_readLaw_1 : decode cX0_readLaw 1 = .ok (.iconst 0, 1) := by decide +kernel
theorem dX0_readLaw_2 : decode cX0_readLaw 2 = .ok (.putfield 21, 3) := by decide +kernel
theorem dX0_readLaw_5 : decode cX0_readLaw 5 = .ok (.aload_n 0, 1) := by decide +kernel
theorem dX0_readLaw_6 : decode cX0_readLaw 6 = .ok (.iconst 0, 1) := by decide +kernel
theorem dX0_readLaw_7 : decode cX0_readLaw 7 = .ok (.putfield 25, 3) := by decide +kernel
theorem dX0_readLaw_10 : decode cX0_readLaw 10 = .ok (.aload_n 0, 1) := by decide +kernel
theorem dX0_readLaw_11 : decode cX0_readLaw 11 = .ok (.iconst 0, 1) := by decide +kernel
theorem dX0_readLaw_12 : decode cX0_readLaw 12 = .ok (.putfield 28, 3) := by decide +kernel
theorem dX0_readLaw_15 : decode cX0_readLaw 15 = .ok (.aload_n 0, 1) := by decide +kernel
theorem dX0_readLaw_16 : decode cX0_readLaw 16 = .ok (.iconst 1, 1) := by decide +kernel
theorem dX0_readLaw_17 : decode cX0_readLaw 17 = .ok (.putfield 31, 3) := by decide +kernel
theorem dX0_readLaw_20 : decode cX0_readLaw 20 = .ok (.iconst 0, 1) := by decide +kernel
theorem dX0_readLaw_21 : decode cX0_readLaw 21 = .ok (.istore_n 1, 1) := by decide +kernel
theorem dX0_readLaw_22 : decode cX0_readLaw 22 = .ok (.iload_n 1, 1) := by decide +kernel
theorem dX0_readLaw_23 : decode cX0_readLaw 23 = .ok (.sipush 1000, 3) := by decide +kernel
theorem dX0_readLaw_26 : decode cX0_readLaw 26 = .ok (.if_icmp .gt 103, 3) := by decide +kernel
theorem dX0_readLaw_29 : decode cX0_readLaw 29 = .ok (.iconst 0, 1) := by decide +kernel
theorem dX0_readLaw_30 : decode cX0_readLaw 30 = .ok (.istore_n 2, 1) := by decide +kernel
theorem dX0_readLaw_31 : decode cX0_readLaw 31 = .ok (.aload_n 0, 1) := by decide +kernel
theorem dX0_readLaw_32 : decode cX0_readLaw 32 = .ok (.getfield 31, 3) := by decide +kernel
theorem dX0_readLaw_35 : decode cX0_readLaw 35 = .ok (.ifCond .eq 11, 3) := by decide +kernel
theorem dX0_readLaw_38 : decode cX0_readLaw 38 = .ok (.aload_n 0, 1) := by decide +kernel
theorem dX0_readLaw_39 : decode cX0_readLaw 39 = .ok (.invokevirtual 37, 3) := by decide +kernel
theorem dX0_readLaw_42 : decode cX0_readLaw 42 = .ok (.istore_n 2, 1) := by decide +kernel
theorem dX0_readLaw_43 : decode cX0_readLaw 43 = .ok (.goto 67, 3) := by decide +kernel
theorem dX0_readLaw_46 : decode cX0_readLaw 46 = .ok (.aload_n 0, 1) := by decide +kernel
theorem dX0_readLaw_47 : decode cX0_readLaw 47 = .ok (.getfield 13, 3) := by decide +kernel
theorem dX0_readLaw_50 : decode cX0_readLaw 50 = .ok (.getfield 41, 3) := by decide +kernel
theorem dX0_readLaw_53 : decode cX0_readLaw 53 = .ok (.invokestatic 44, 3) := by decide +kernel
theorem dX0_readLaw_56 : decode cX0_readLaw 56 = .ok (.ifCond .le 11, 3) := by decide +kernel
theorem dX0_readLaw_59 : decode cX0_readLaw 59 = .ok (.aload_n 0, 1) := by decide +kernel
theorem dX0_readLaw_60 : decode cX0_readLaw 60 = .ok (.invokevirtual 48, 3) := by decide +kernel
theorem dX0_readLaw_63 : decode cX0_readLaw 63 = .ok (.istore_n 2, 1) := by decide +kernel
theorem dX0_readLaw_64 : decode cX0_readLaw 64 = .ok (.goto 46, 3) := by decide +kernel
theorem dX0_readLaw_67 : decode cX0_readLaw 67 = .ok (.aload_n 0, 1) := by decide +kernel
theorem dX0_readLaw_68 : decode cX0_readLaw 68 = .ok (.getfield 25, 3) := by decide +kernel
theorem dX0_readLaw_71 : decode cX0_readLaw 71 = .ok (.ifCond .le 21, 3) := by decide +kernel
theorem dX0_readLaw_74 : decode cX0_readLaw 74 = .ok (.aload_n 0, 1) := by decide +kernel
theorem dX0_readLaw_75 : decode cX0_readLaw 75 = .ok (.getfield 13, 3) := by decide +kernel
theorem dX0_readLaw_78 : decode cX0_readLaw 78 = .ok (.getfield 41, 3) := by decide +kernel
theorem dX0_readLaw_81 : decode cX0_readLaw 81 = .ok (.iconst 5, 1) := by decide +kernel
theorem dX0_readLaw_82 : decode cX0_readLaw 82 = .ok (.if_icmp .ne 10, 3) := by decide +kernel
theorem dX0_readLaw_85 : decode cX0_readLaw 85 = .ok (.aload_n 0, 1) := by decide +kernel
theorem dX0_readLaw_86 : decode cX0_readLaw 86 = .ok (.invokevirtual 51, 3) := by decide +kernel
theorem dX0_readLaw_89 : decode cX0_readLaw 89 = .ok (.goto 21, 3) := by decide +kernel
theorem dX0_readLaw_92 : decode cX0_readLaw 92 = .ok (.aload_n 0, 1) := by decide +kernel
theorem dX0_readLaw_93 : decode cX0_readLaw 93 = .ok (.iconst 0, 1) := by decide +kernel
theorem dX0_readLaw_94 : decode cX0_readLaw 94 = .ok (.invokevirtual 54, 3) := by decide +kernel
theorem dX0_readLaw_97 : decode cX0_readLaw 97 = .ok (.aload_n 0, 1) := by decide +kernel
theorem dX0_readLaw_98 : decode cX0_readLaw 98 = .ok (.getfield 25, 3) := by decide +kernel
theorem dX0_readLaw_101 : decode cX0_readLaw 101 = .ok (.ifCond .le 7, 3) := by decide +kernel
theorem dX0_readLaw_104 : decode cX0_readLaw 104 = .ok (.iconst 1, 1) := by decide +kernel
theorem dX0_readLaw_105 : decode cX0_readLaw 105 = .ok (.goto 4, 3) := by decide +kernel
theorem dX0_readLaw_108 : decode cX0_readLaw 108 = .ok (.iconst 0, 1) := by decide +kernel
theorem dX0_readLaw_109 : decode cX0_readLaw 109 = .ok (.ireturn, 1) := by decide +kernel
theorem dX0_readLaw_110 : decode cX0_readLaw 110 = .ok (.iload_n 2, 1) := by decide +kernel
theorem dX0_readLaw_111 : decode cX0_readLaw 111 = .ok (.ifCond .eq 5, 3) := by decide +kernel
theorem dX0_readLaw_114 : decode cX0_readLaw 114 = .ok (.iload_n 2, 1) := by decide +kernel
theorem dX0_readLaw_115 : decode cX0_readLaw 115 = .ok (.ireturn, 1) := by decide +kernel
theorem dX0_readLaw_116 : decode cX0_readLaw 116 = .ok (.aload_n 0, 1) := by decide +kernel
theorem dX0_readLaw_117 : decode cX0_readLaw 117 = .ok (.getfield 13, 3) := by decide +kernel
theorem dX0_readLaw_120 : decode cX0_readLaw 120 = .ok (.invokevirtual 60, 3) := by decide +kernel
theorem dX0_readLaw_123 : decode cX0_readLaw 123 = .ok (.iinc 1 1, 3) := by decide +kernel
theorem dX0_readLaw_126 : decode cX0_readLaw 126 = .ok (.goto (-104), 3) := by decide +kernel
theorem dX0_readLaw_129 : decode cX0_readLaw 129 = .ok (.iconst 1, 1) := by decide +kernel
theorem dX0_readLaw_130 : decode cX0_readLaw 130 = .ok (.ireturn, 1) := by decide +kernel
def g_X0_readLaw_92 (t0 : Nat)  (h : zH) : Option (Int32 × zH) := (g_X0_release h t0 0).bind fun v_14 => if (v_14.1 t0 4) ≤ 0 then (some (0, v_14)) else (some (1, v_14))
def g_X0_readLaw_110 (t0 : Nat) (k22 : Int32 → zH → Option (Int32 × zH)) (x1 : Int32) (x2 : Int32) (h : zH) : Option (Int32 × zH) := if x2 = 0 then ((g_X8_lookAtNext h (zR t0 0)).bind fun v_17 => k22 (x1 + 1) v_17) else (some (x2, h))
def g_X0_readLaw_22 (t0 : Nat)  : Nat → Int32 → zH → Option (Int32 × zH)
  | 0, _, _ => none
  | n + 1, x1, h => if 1000 < x1 then (some (1, h)) else (if (h.1 t0 6) = 0 then ((g_X0_rank h (h.1 (zR t0 0) 2)).bind fun v_7 => if v_7 ≤ 0 then (if (h.1 t0 4) ≤ 0 then (g_X0_readLaw_92 t0 h) else (if (h.1 (zR t0 0) 2) = 5 then ((g_X0_close h t0).bind fun v_11 => g_X0_readLaw_110 t0 (g_X0_readLaw_22 t0 n) x1 0 v_11) else (g_X0_readLaw_92 t0 h))) else ((g_X0_takeOperator h t0).bind fun v_12 => g_X0_readLaw_110 t0 (g_X0_readLaw_22 t0 n) x1 v_12.1 v_12.2)) else ((g_X0_takePart h t0).bind fun v_13 => g_X0_readLaw_110 t0 (g_X0_readLaw_22 t0 n) x1 v_13.1 v_13.2))
def g_X0_readLaw (h : zH) (t0 : Nat) : Option (Int32 × zH) := zlet (zpi h t0 3 0) fun h_1 => zlet (zpi h_1 t0 4 0) fun h_2 => zlet (zpi h_2 t0 5 0) fun h_3 => zlet (zpi h_3 t0 6 1) fun h_4 => g_X0_readLaw_22 t0 zfu 0 h_4
set_option maxRecDepth 100000 in
set_option maxHeartbeats 4000000 in
theorem b_X0_readLaw_92 {K : zK} {G : zG} (hK : zC K G cX0_readLaw RX0 3 6 130 (some .int)) {t0 : Nat} (ht0 : zT t0 = (0, 0)) {r : Int32 × zH} (hE : zE K G (some (.int r.1)) r.2) (h : zH) (hg : g_X0_readLaw_92 t0 h = some r) : zW K G 3 92 [(0, .ref (G.2.2.2 t0))] [] h := by
  rw [g_X0_readLaw_92] at hg
  obtain ⟨v_14, qv_14, hg⟩ := zbind_some hg
  refine z_aload_n (pc := 92) hK 0 dX0_readLaw_92 rfl (z_iconst (pc := 93) hK dX0_readLaw_93 zc_i0 (z_callVv (pc := 94) hK [.int 0] (m_X0_release (zC_D hK) ht0 qv_14) sv_X0_release q_800 ht0 rfl [] rfl (Nat.le_of_ble_eq_true rfl) ⟨by decide, by decide⟩ dX0_readLaw_94 (z_aload_n (pc := 97) hK 0 dX0_readLaw_97 rfl (z_getI (pc := 98) hK f_X0_25_0 ht0 dX0_readLaw_98 (z_if_le (pc := 101) hK 108 dX0_readLaw_101 (by decide) (fun c_15 => ?_) (fun c_15 => ?_))))))
  · rw [if_pos c_15] at hg
    exact z_iconst (pc := 108) hK dX0_readLaw_108 zc_i0 (z_iretE (pc := 109) hK hE hg dX0_readLaw_109)
  · rw [if_neg c_15] at hg
    exact z_iconst (pc := 104) hK dX0_readLaw_104 zc_i1 (z_goto (pc := 105) hK 109 dX0_readLaw_105 (by decide) (z_iretE (pc := 109) hK hE hg dX0_readLaw_109))
set_option maxRecDepth 100000 in
set_option maxHeartbeats 4000000 in
theorem b_X0_readLaw_110 {K : zK} {G : zG} (hK : zC K G cX0_readLaw RX0 3 6 130 (some .int)) {t0 : Nat} (ht0 : zT t0 = (0, 0)) {r : Int32 × zH} (hE : zE K G (some (.int r.1)) r.2) {k22 : Int32 → zH → Option (Int32 × zH)} (hk22 : ∀ (x1 : Int32) (h : zH), k22 x1 h = some r → zW K G 3 22 [(0, .ref (G.2.2.2 t0)), (1, .int x1)] [] h) (x1 : Int32) (x2 : Int32) (h : zH) (hg : g_X0_readLaw_110 t0 k22 x1 x2 h = some r) : zW K G 3 110 [(0, .ref (G.2.2.2 t0)), (1, .int x1), (2, .int x2)] [] h := by
  rw [g_X0_readLaw_110] at hg
  refine z_iload_n (pc := 110) hK 2 dX0_readLaw_110 rfl (z_if_eq (pc := 111) hK 116 dX0_readLaw_111 (by decide) (fun c_16 => ?_) (fun c_16 => ?_))
  · rw [if_pos c_16] at hg
    obtain ⟨v_17, qv_17, hg⟩ := zbind_some hg
    exact z_aload_n (pc := 116) hK 0 dX0_readLaw_116 rfl (z_getR (pc := 117) hK f_X0_13_0 ht0 dX0_readLaw_117 (z_callVv (pc := 120) hK [] (m_X8_lookAtNext (zC_D hK) (zt_0_0 ht0) qv_17) sv_X8_lookAtNext q_808 (zt_0_0 ht0) rfl [] rfl (Nat.le_of_ble_eq_true rfl) ⟨by decide, by decide⟩ dX0_readLaw_120 (z_iinc (pc := 123) hK 1 (lv' := [(1, .int (x1 + 1)), (0, .ref (G.2.2.2 t0)), (2, .int x2)]) dX0_readLaw_123 rfl (zc_n1 _) (by decide) rfl (z_goto (pc := 126) hK 22 dX0_readLaw_126 (by decide) (zsub (lv' := [(0, .ref (G.2.2.2 t0)), (1, .int (x1 + 1))]) [1, 0] rfl (hk22 (x1 + 1) v_17 hg))))))
  · rw [if_neg c_16] at hg
    exact z_iload_n (pc := 114) hK 2 dX0_readLaw_114 rfl (z_iretE (pc := 115) hK hE hg dX0_readLaw_115)
set_option maxRecDepth 100000 in
set_option maxHeartbeats 4000000 in
theorem b_X0_readLaw_22 {K : zK} {G : zG} (hK : zC K G cX0_readLaw RX0 3 6 130 (some .int)) {t0 : Nat} (ht0 : zT t0 = (0, 0)) {r : Int32 × zH} (hE : zE K G (some (.int r.1)) r.2) : ∀ (n : Nat) (x1 : Int32) (h : zH), g_X0_readLaw_22 t0 n x1 h = some r → zW K G 3 22 [(0, .ref (G.2.2.2 t0)), (1, .int x1)] [] h := by
  intro n
  induction n with
  | zero => intro x1 h hg; exact nomatch (show none = some r from hg)
  | succ n ih =>
    intro x1 h hg
    rw [g_X0_readLaw_22] at hg
    refine z_iload_n (pc := 22) hK 1 dX0_readLaw_22 rfl (z_sipush (pc := 23) hK dX0_readLaw_23 zc_s1000 (z_icmp_gt (pc := 26) hK 129 dX0_readLaw_26 (by decide) (fun c_5 => ?_) (fun c_5 => ?_)))
    · rw [if_pos c_5] at hg
      exact z_iconst (pc := 129) hK dX0_readLaw_129 zc_i1 (z_iretE (pc := 130) hK hE hg dX0_readLaw_130)
    · rw [if_neg c_5] at hg
      refine z_iconst (pc := 29) hK dX0_readLaw_29 zc_i0 (z_istore_n (pc := 30) hK (lv' := [(2, .int 0), (0, .ref (G.2.2.2 t0)), (1, .int x1)]) dX0_readLaw_30 (by decide) rfl (z_aload_n (pc := 31) hK 1 dX0_readLaw_31 rfl (z_getI (pc := 32) hK f_X0_31_0 ht0 dX0_readLaw_32 (z_if_eq (pc := 35) hK 46 dX0_readLaw_35 (by decide) (fun c_6 => ?_) (fun c_6 => ?_)))))
      · rw [if_pos c_6] at hg
        obtain ⟨v_7, qv_7, hg⟩ := zbind_some hg
        refine z_aload_n (pc := 46) hK 1 dX0_readLaw_46 rfl (z_getR (pc := 47) hK f_X0_13_0 ht0 dX0_readLaw_47 (z_getI (pc := 50) hK f_X0_41_7 (zt_0_0 ht0) dX0_readLaw_50 (z_callSi (pc := 53) hK [.int (h.1 (zR t0 0) 2)] (m_X0_rank (zC_D hK) qv_7) ss_X0_rank q_793 rfl [] rfl (Nat.le_of_ble_eq_true rfl) ⟨by decide, by decide⟩ dX0_readLaw_53 (z_if_le (pc := 56) hK 67 dX0_readLaw_56 (by decide) (fun c_8 => ?_) (fun c_8 => ?_)))))
        · rw [if_pos c_8] at hg
          refine z_aload_n (pc := 67) hK 1 dX0_readLaw_67 rfl (z_getI (pc := 68) hK f_X0_25_0 ht0 dX0_readLaw_68 (z_if_le (pc := 71) hK 92 dX0_readLaw_71 (by decide) (fun c_9 => ?_) (fun c_9 => ?_)))
          · rw [if_pos c_9] at hg
            exact zsub (lv' := [(0, .ref (G.2.2.2 t0))]) [1] rfl (b_X0_readLaw_92 hK ht0 hE h hg)
          · rw [if_neg c_9] at hg
            refine z_aload_n (pc := 74) hK 1 dX0_readLaw_74 rfl (z_getR (pc := 75) hK f_X0_13_0 ht0 dX0_readLaw_75 (z_getI (pc := 78) hK f_X0_41_7 (zt_0_0 ht0) dX0_readLaw_78 (z_iconst (pc := 81) hK dX0_readLaw_81 zc_i5 (z_icmp_ne (pc := 82) hK 92 dX0_readLaw_82 (by decide) (fun c_10 => ?_) (fun c_10 => ?_)))))
            · rw [if_neg c_10] at hg
              exact zsub (lv' := [(0, .ref (G.2.2.2 t0))]) [1] rfl (b_X0_readLaw_92 hK ht0 hE h hg)
            · rw [if_pos c_10] at hg
              obtain ⟨v_11, qv_11, hg⟩ := zbind_some hg
              exact z_aload_n (pc := 85) hK 1 dX0_readLaw_85 rfl (z_callVv (pc := 86) hK [] (m_X0_close (zC_D hK) ht0 qv_11) sv_X0_close q_804 ht0 rfl [] rfl (Nat.le_of_ble_eq_true rfl) ⟨by decide, by decide⟩ dX0_readLaw_86 (z_goto (pc := 89) hK 110 dX0_readLaw_89 (by decide) (zsub (lv' := [(0, .ref (G.2.2.2 t0)), (1, .int x1), (2, .int 0)]) [1, 2, 0] rfl (b_X0_readLaw_110 hK ht0 hE ih x1 0 v_11 hg))))
        · rw [if_neg c_8] at hg
          obtain ⟨v_12, qv_12, hg⟩ := zbind_some hg
          exact z_aload_n (pc := 59) hK 1 dX0_readLaw_59 rfl (z_callVi (pc := 60) hK [] (m_X0_takeOperator (zC_D hK) ht0 qv_12) sv_X0_takeOperator q_796 ht0 rfl [] rfl (Nat.le_of_ble_eq_true rfl) ⟨by decide, by decide⟩ dX0_readLaw_60 (z_istore_n (pc := 63) hK (lv' := [(2, .int v_12.1), (0, .ref (G.2.2.2 t0)), (1, .int x1)]) dX0_readLaw_63 (by decide) rfl (z_goto (pc := 64) hK 110 dX0_readLaw_64 (by decide) (zsub (lv' := [(0, .ref (G.2.2.2 t0)), (1, .int x1), (2, .int v_12.1)]) [1, 2, 0] rfl (b_X0_readLaw_110 hK ht0 hE ih x1 v_12.1 v_12.2 hg)))))
      · rw [if_neg c_6] at hg
        obtain ⟨v_13, qv_13, hg⟩ := zbind_some hg
        exact z_aload_n (pc := 38) hK 1 dX0_readLaw_38 rfl (z_callVi (pc := 39) hK [] (m_X0_takePart (zC_D hK) ht0 qv_13) sv_X0_takePart q_772 ht0 rfl [] rfl (Nat.le_of_ble_eq_true rfl) ⟨by decide, by decide⟩ dX0_readLaw_39 (z_istore_n (pc := 42) hK (lv' := [(2, .int v_13.1), (0, .ref (G.2.2.2 t0)), (1, .int x1)]) dX0_readLaw_42 (by decide) rfl (z_goto (pc := 43) hK 110 dX0_readLaw_43 (by decide) (zsub (lv' := [(0, .ref (G.2.2.2 t0)), (1, .int x1), (2, .int v_13.1)]) [1, 2, 0] rfl (b_X0_readLaw_110 hK ht0 hE ih x1 v_13.1 v_13.2 hg)))))
set_option maxRecDepth 100000 in
set_option maxHeartbeats 4000000 in
theorem b_X0_readLaw {K : zK} {G : zG} (hK : zC K G cX0_readLaw RX0 3 6 130 (some .int)) {h : zH} {t0 : Nat} (ht0 : zT t0 = (0, 0)) {r : Int32 × zH} (hE : zE K G (some (.int r.1)) r.2) (hg : g_X0_readLaw h t0 = some r) : zW K G 3 0 [(0, .ref (G.2.2.2 t0))] [] h := by
  rw [g_X0_readLaw] at hg
  obtain ⟨h_1, eh_1, hg⟩ := zlet_some hg
  obtain ⟨h_2, eh_2, hg⟩ := zlet_some hg
  obtain ⟨h_3, eh_3, hg⟩ := zlet_some hg
  obtain ⟨h_4, eh_4, hg⟩ := zlet_some hg
  exact z_aload_n (pc := 0) hK 0 dX0_readLaw_0 rfl (z_iconst (pc := 1) hK dX0_readLaw_1 zc_i0 (z_putI (pc := 2) hK f_X0_21_0 fp_0_3 ht0 dX0_readLaw_2 (z_nameH eh_1 (z_aload_n (pc := 5) hK 0 dX0_readLaw_5 rfl (z_iconst (pc := 6) hK dX0_readLaw_6 zc_i0 (z_putI (pc := 7) hK f_X0_25_0 fp_0_4 ht0 dX0_readLaw_7 (z_nameH eh_2 (z_aload_n (pc := 10) hK 0 dX0_readLaw_10 rfl (z_iconst (pc := 11) hK dX0_readLaw_11 zc_i0 (z_putI (pc := 12) hK f_X0_28_0 fp_0_5 ht0 dX0_readLaw_12 (z_nameH eh_3 (z_aload_n (pc := 15) hK 0 dX0_readLaw_15 rfl (z_iconst (pc := 16) hK dX0_readLaw_16 zc_i1 (z_putZ (pc := 17) hK f_X0_31_0 fp_0_6 rfl ht0 dX0_readLaw_17 (z_nameH eh_4 (z_iconst (pc := 20) hK dX0_readLaw_20 zc_i0 (z_istore_n (pc := 21) hK (lv' := [(1, .int 0), (0, .ref (G.2.2.2 t0))]) dX0_readLaw_21 (by decide) rfl (zsub (lv' := [(0, .ref (G.2.2.2 t0)), (1, .int 0)]) [1, 0] rfl (b_X0_readLaw_22 hK ht0 hE zfu 0 h_4 hg)))))))))))))))))))
theorem m_X0_readLaw {l : Launch} {G : zG} (hG : zD G) {h : zH} {t0 : Nat} (ht0 : zT t0 = (0, 0)) {r : Int32 × zH} (hg : g_X0_readLaw h t0 = some r) : zM l G yX0_readLaw cX0_readLaw 3 (some .int) 6 130 [.ref (G.2.2.2 t0)] h (some (.int r.1)) r.2 :=
  zM_of hG pn_X0 (Nat.le_of_ble_eq_true rfl) (fun K _ hK hE => b_X0_readLaw hK ht0 hE hg)
theorem dX1_clear_0 : decode cX1_clear 0 = .ok (.aload_n 0, 1) := by decide +kernel
theorem dX1_clear_1 : decode cX1_clear 1 = .ok (.iconst 0, 1) := by decide +kernel
theorem dX1_clear_2 : decode cX1_clear 2 = .ok (.putfield 20, 3) := by decide +kernel
theorem dX1_clear_5 : decode cX1_clear 5 = .ok (.aload_n 0, 1) := by decide +kernel
theorem dX1_clear_6 : decode cX1_clear 6 = .ok (.iconst 0, 1) := by decide +kernel
theorem dX1_clear_7 : decode cX1_clear 7 = .ok (.putfield 24, 3) := by decide +kernel
theorem dX1_clear_10 : decode cX1_clear 10 = .ok (.aload_n 0, 1) := by decide +kernel
theorem dX1_clear_11 : decode cX1_clear 11 = .ok (.iconst 0, 1) := by decide +kernel
theorem dX1_clear_12 : decode cX1_clear 12 = .ok (.putfield 27, 3) := by decide +kernel
theorem dX1_clear_15 : decode cX1_clear 15 = .ok (.aload_n 0, 1) := by decide +kernel
theorem dX1_clear_16 : decode cX1_clear 16 = .ok (.iconst 0, 1) := by decide +kernel
theorem dX1_clear_17 : decode cX1_clear 17 = .ok (.putfield 30, 3) := by decide +kernel
theorem dX1_clear_20 : decode cX1_clear 20 = .ok (.aload_n 0, 1) := by decide +kernel
theorem dX1_clear_21 : decode cX1_clear 21 = .ok (.iconst 0, 1) := by decide +kernel
theorem dX1_clear_22 : decode cX1_clear 22 = .ok (.putfield 33, 3) := by decide +kernel
theorem dX1_clear_25 : decode cX1_clear 25 = .ok (.return_, 1) := by decide +kernel
def g_X1_clear (h : zH) (t0 : Nat) : Option zH := zlet (zpi h t0 7 0) fun h_1 => zlet (zpi h_1 t0 8 0) fun h_2 => zlet (zpi h_2 t0 9 0) fun h_3 => zlet (zpi h_3 t0 10 0) fun h_4 => zlet (zpi h_4 t0 11 0) fun h_5 => some h_5
set_option maxRecDepth 100000 in
set_option maxHeartbeats 4000000 in
theorem b_X1_clear {K : zK} {G : zG} (hK : zC K G cX1_clear RX1 1 0 0 none) {h : zH} {t0 : Nat} (ht0 : zT t0 = (1, 0)) {r : zH} (hE : zE K G (none) r) (hg : g_X1_clear h t0 = some r) : zW K G 1 0 [(0, .ref (G.2.2.2 t0))] [] h := by
  rw [g_X1_clear] at hg
  obtain ⟨h_1, eh_1, hg⟩ := zlet_some hg
  obtain ⟨h_2, eh_2, hg⟩ := zlet_some hg
  obtain ⟨h_3, eh_3, hg⟩ := zlet_some hg
  obtain ⟨h_4, eh_4, hg⟩ := zlet_some hg
  obtain ⟨h_5, eh_5, hg⟩ := zlet_some hg
  exact z_aload_n (pc := 0) hK 0 dX1_clear_0 rfl (z_iconst (pc := 1) hK dX1_clear_1 zc_i0 (z_putI (pc := 2) hK f_X1_20_1 fp_1_7 ht0 dX1_clear_2 (z_nameH eh_1 (z_aload_n (pc := 5) hK 0 dX1_clear_5 rfl (z_iconst (pc := 6) hK dX1_clear_6 zc_i0 (z_putI (pc := 7) hK f_X1_24_1 fp_1_8 ht0 dX1_clear_7 (z_nameH eh_2 (z_aload_n (pc := 10) hK 0 dX1_clear_10 rfl (z_iconst (pc := 11) hK dX1_clear_11 zc_i0 (z_putI (pc := 12) hK f_X1_27_1 fp_1_9 ht0 dX1_clear_12 (z_nameH eh_3 (z_aload_n (pc := 15) hK 0 dX1_clear_15 rfl (z_iconst (pc := 16) hK dX1_clear_16 zc_i0 (z_putI (pc := 17) hK f_X1_30_1 fp_1_10 ht0 dX1_clear_17 (z_nameH eh_4 (z_aload_n (pc := 20) hK 0 dX1_clear_20 rfl (z_iconst (pc := 21) hK dX1_clear_21 zc_i0 (z_putI (pc := 22) hK f_X1_33_1 fp_1_11 ht0 dX1_clear_22 (z_nameH eh_5 (z_vretE (pc := 25) hK hE hg dX1_clear_25))))))))))))))))))))
theorem m_X1_clear {l : Launch} {G : zG} (hG : zD G) {h : zH} {t0 : Nat} (ht0 : zT t0 = (1, 0)) {r : zH} (hg : g_X1_clear h t0 = some r) : zM l G yX1_clear cX1_clear 1 none 0 0 [.ref (G.2.2.2 t0)] h (none) r :=
  zM_of hG pn_X1 (Nat.le_of_ble_eq_true rfl) (fun K _ hK hE => b_X1_clear hK ht0 hE hg)
theorem dX1_become_0 : decode cX1_become 0 = .ok (.aload_n 1, 1) := by decide +kernel
theorem dX1_become_1 : decode cX1_become 1 = .ok (.getfield 11, 3) := by decide +kernel
theorem dX1_become_4 : decode cX1_become 4 = .ok (.iconst 0, 1) := by decide +kernel
theorem dX1_become_5 : decode cX1_become 5 = .ok (.aload_n 0, 1) := by decide +kernel
theorem dX1_become_6 : decode cX1_become 6 = .ok (.getfield 11, 3) := by decide +kernel
theorem dX1_become_9 : decode cX1_become 9 = .ok (.iconst 0, 1) := by decide +kernel
theorem dX1_become_10 : decode cX1_become 10 = .ok (.sipush 1000, 3) := by decide +kernel
theorem dX1_become_13 : decode cX1_become 13 = .ok (.invokestatic 36, 3) := by decide +kernel
theorem dX1_become_16 : decode cX1_become 16 = .ok (.aload_n 0, 1) := by decide +kernel
theorem dX1_become_17 : decode cX1_become 17 = .ok (.aload_n 1, 1) := by decide +kernel
theorem dX1_become_18 : decode cX1_become 18 = .ok (.getfield 20, 3) := by decide +kernel
theorem dX1_become_21 : decode cX1_become 21 = .ok (.putfield 20, 3) := by decide +kernel
theorem dX1_become_24 : decode cX1_become 24 = .ok (.aload_n 0, 1) := by decide +kernel
theorem dX1_become_25 : decode cX1_become 25 = .ok (.aload_n 1, 1) := by decide +kernel
theorem dX1_become_26 : decode cX1_become 26 = .ok (.getfield 24, 3) := by decide +kernel
theorem dX1_become_29 : decode cX1_become 29 = .ok (.putfield 24, 3) := by decide +kernel
theorem dX1_become_32 : decode cX1_become 32 = .ok (.aload_n 0, 1) := by decide +kernel
theorem dX1_become_33 : decode cX1_become 33 = .ok (.aload_n 1, 1) := by decide +kernel
theorem dX1_become_34 : decode cX1_become 34 = .ok (.getfield 27, 3) := by decide +kernel
theorem dX1_become_37 : decode cX1_become 37 = .ok (.putfield 27, 3) := by decide +kernel
theorem dX1_become_40 : decode cX1_become 40 = .ok (.aload_n 0, 1) := by decide +kernel
theorem dX1_become_41 : decode cX1_become 41 = .ok (.aload_n 1, 1) := by decide +kernel
theorem dX1_become_42 : decode cX1_become 42 = .ok (.getfield 30, 3) := by decide +kernel
theorem dX1_become_45 : decode cX1_become 45 = .ok (.putfield 30, 3) := by decide +kernel
theorem dX1_become_48 : decode cX1_become 48 = .ok (.aload_n 0, 1) := by decide +kernel
theorem dX1_become_49 : decode cX1_become 49 = .ok (.aload_n 1, 1) := by decide +kernel
theorem dX1_become_50 : decode cX1_become 50 = .ok (.getfield 33, 3) := by decide +kernel
theorem dX1_become_53 : decode cX1_become 53 = .ok (.putfield 33, 3) := by decide +kernel
theorem dX1_become_56 : decode cX1_become 56 = .ok (.return_, 1) := by decide +kernel
def g_X1_become (h : zH) (t0 : Nat) (t1 : Nat) : Option zH := zgu (zcg 0 0 1000 1000 1000) <| zlet (zcpi h (zR t1 0) (zx 0) (zR t0 0) (zx 0) (zx 1000)) fun h_2 => zlet (zpi h_2 t0 7 (h_2.1 t1 7)) fun h_3 => zlet (zpi h_3 t0 8 (h_3.1 t1 8)) fun h_4 => zlet (zpi h_4 t0 9 (h_4.1 t1 9)) fun h_5 => zlet (zpi h_5 t0 10 (h_5.1 t1 10)) fun h_6 => zlet (zpi h_6 t0 11 (h_6.1 t1 11)) fun h_7 => some h_7
set_option maxRecDepth 100000 in
set_option maxHeartbeats 4000000 in
theorem b_X1_become {K : zK} {G : zG} (hK : zC K G cX1_become RX1 2 1 18 none) {h : zH} {t0 : Nat} {t1 : Nat} (ht0 : zT t0 = (1, 0)) (ht1 : zT t1 = (1, 0)) {r : zH} (hE : zE K G (none) r) (hg : g_X1_become h t0 t1 = some r) : zW K G 2 0 [(0, .ref (G.2.2.2 t0)), (1, .ref (G.2.2.2 t1))] [] h := by
  rw [g_X1_become] at hg
  obtain ⟨c_1, hg⟩ := zgu_some hg
  obtain ⟨h_2, eh_2, hg⟩ := zlet_some hg
  obtain ⟨h_3, eh_3, hg⟩ := zlet_some hg
  obtain ⟨h_4, eh_4, hg⟩ := zlet_some hg
  obtain ⟨h_5, eh_5, hg⟩ := zlet_some hg
  obtain ⟨h_6, eh_6, hg⟩ := zlet_some hg
  obtain ⟨h_7, eh_7, hg⟩ := zlet_some hg
  exact z_aload_n (pc := 0) hK 1 dX1_become_0 rfl (z_getR (pc := 1) hK f_X1_11_1 ht1 dX1_become_1 (z_iconst (pc := 4) hK dX1_become_4 zc_i0 (z_aload_n (pc := 5) hK 0 dX1_become_5 rfl (z_getR (pc := 6) hK f_X1_11_1 ht0 dX1_become_6 (z_iconst (pc := 9) hK dX1_become_9 zc_i0 (z_sipush (pc := 10) hK dX1_become_10 zc_s1000 (z_copyi (pc := 13) hK q_842 zw_copy (zt_1_0 ht1) (zt_1_0 ht0) c_1 ⟨by decide, Nat.le_of_ble_eq_true rfl⟩ dX1_become_13 (z_nameH eh_2 (z_aload_n (pc := 16) hK 0 dX1_become_16 rfl (z_aload_n (pc := 17) hK 1 dX1_become_17 rfl (z_getI (pc := 18) hK f_X1_20_1 ht1 dX1_become_18 (z_putI (pc := 21) hK f_X1_20_1 fp_1_7 ht0 dX1_become_21 (z_nameH eh_3 (z_aload_n (pc := 24) hK 0 dX1_become_24 rfl (z_aload_n (pc := 25) hK 1 dX1_become_25 rfl (z_getI (pc := 26) hK f_X1_24_1 ht1 dX1_become_26 (z_putI (pc := 29) hK f_X1_24_1 fp_1_8 ht0 dX1_become_29 (z_nameH eh_4 (z_aload_n (pc := 32) hK 0 dX1_become_32 rfl (z_aload_n (pc := 33) hK 1 dX1_become_33 rfl (z_getI (pc := 34) hK f_X1_27_1 ht1 dX1_become_34 (z_putI (pc := 37) hK f_X1_27_1 fp_1_9 ht0 dX1_become_37 (z_nameH eh_5 (z_aload_n (pc := 40) hK 0 dX1_become_40 rfl (z_aload_n (pc := 41) hK 1 dX1_become_41 rfl (z_getI (pc := 42) hK f_X1_30_1 ht1 dX1_become_42 (z_putI (pc := 45) hK f_X1_30_1 fp_1_10 ht0 dX1_become_45 (z_nameH eh_6 (z_aload_n (pc := 48) hK 0 dX1_become_48 rfl (z_aload_n (pc := 49) hK 1 dX1_become_49 rfl (z_getI (pc := 50) hK f_X1_33_1 ht1 dX1_become_50 (z_putI (pc := 53) hK f_X1_33_1 fp_1_11 ht0 dX1_become_53 (z_nameH eh_7 (z_vretE (pc := 56) hK hE hg dX1_become_56))))))))))))))))))))))))))))))))))
theorem m_X1_become {l : Launch} {G : zG} (hG : zD G) {h : zH} {t0 : Nat} {t1 : Nat} (ht0 : zT t0 = (1, 0)) (ht1 : zT t1 = (1, 0)) {r : zH} (hg : g_X1_become h t0 t1 = some r) : zM l G yX1_become cX1_become 2 none 1 18 [.ref (G.2.2.2 t0), .ref (G.2.2.2 t1)] h (none) r :=
  zM_of hG pn_X1 (Nat.le_of_ble_eq_true rfl) (fun K _ hK hE => b_X1_become hK ht0 ht1 hE hg)
theorem dX1_tellFacts_0 : decode cX1_tellFacts 0 = .ok (.aload_n 0, 1) := by decide +kernel
theorem dX1_tellFacts_1 : decode cX1_tellFacts 1 = .ok (.iload_n 1, 1) := by decide +kernel
theorem dX1_tellFacts_2 : decode cX1_tellFacts 2 = .ok (.putfield 46, 3) := by decide +kernel
theorem dX1_tellFacts_5 : decode cX1_tellFacts 5 = .ok (.aload_n 0, 1) := by decide +kernel
theorem dX1_tellFacts_6 : decode cX1_tellFacts 6 = .ok (.iload_n 2, 1) := by decide +kernel
theorem dX1_tellFacts_7 : decode cX1_tellFacts 7 = .ok (.putfield 49, 3) := by decide +kernel
theorem dX1_tellFacts_10 : decode cX1_tellFacts 10 = .ok (.aload_n 0, 1) := by decide +kernel
theorem dX1_tellFacts_11 : decode cX1_tellFacts 11 = .ok (.iload_n 3, 1) := by decide +kernel
theorem dX1_tellFacts_12 : decode cX1_tellFacts 12 = .ok (.putfield 52, 3) := by decide +kernel
theorem dX1_tellFacts_15 : decode cX1_tellFacts 15 = .ok (.aload_n 0, 1) := by decide +kernel
theorem dX1_tellFacts_16 : decode cX1_tellFacts 16 = .ok (.iload 4, 2) := by decide +kernel
theorem dX1_tellFacts_18 : decode cX1_tellFacts 18 = .ok (.putfield 55, 3) := by decide +kernel
theorem dX1_tellFacts_21 : decode cX1_tellFacts 21 = .ok (.return_, 1) := by decide +kernel
def g_X1_tellFacts (h : zH) (t0 : Nat) (x1 : Int32) (x2 : Int32) (x3 : Int32) (x4 : Int32) : Option zH := zlet (zpi h t0 3 x1) fun h_1 => zlet (zpi h_1 t0 4 x2) fun h_2 => zlet (zpi h_2 t0 5 x3) fun h_3 => zlet (zpi h_3 t0 6 x4) fun h_4 => some h_4
set_option maxRecDepth 100000 in
set_option maxHeartbeats 4000000 in
theorem b_X1_tellFacts {K : zK} {G : zG} (hK : zC K G cX1_tellFacts RX1 5 0 0 none) {h : zH} {t0 : Nat} {x1 : Int32} {x2 : Int32} {x3 : Int32} {x4 : Int32} (ht0 : zT t0 = (1, 0)) {r : zH} (hE : zE K G (none) r) (hg : g_X1_tellFacts h t0 x1 x2 x3 x4 = some r) : zW K G 5 0 [(0, .ref (G.2.2.2 t0)), (1, .int x1), (2, .int x2), (3, .int x3), (4, .int x4)] [] h := by
  rw [g_X1_tellFacts] at hg
  obtain ⟨h_1, eh_1, hg⟩ := zlet_some hg
  obtain ⟨h_2, eh_2, hg⟩ := zlet_some hg
  obtain ⟨h_3, eh_3, hg⟩ := zlet_some hg
  obtain ⟨h_4, eh_4, hg⟩ := zlet_some hg
  exact z_aload_n (pc := 0) hK 0 dX1_tellFacts_0 rfl (z_iload_n (pc := 1) hK 1 dX1_tellFacts_1 rfl (z_putI (pc := 2) hK f_X1_46_1 fp_1_3 ht0 dX1_tellFacts_2 (z_nameH eh_1 (z_aload_n (pc := 5) hK 0 dX1_tellFacts_5 rfl (z_iload_n (pc := 6) hK 2 dX1_tellFacts_6 rfl (z_putI (pc := 7) hK f_X1_49_1 fp_1_4 ht0 dX1_tellFacts_7 (z_nameH eh_2 (z_aload_n (pc := 10) hK 0 dX1_tellFacts_10 rfl (z_iload_n (pc := 11) hK 3 dX1_tellFacts_11 rfl (z_putI (pc := 12) hK f_X1_52_1 fp_1_5 ht0 dX1_tellFacts_12 (z_nameH eh_3 (z_aload_n (pc := 15) hK 0 dX1_tellFacts_15 rfl (z_iload (pc := 16) hK 4 dX1_tellFacts_16 rfl (z_putI (pc := 18) hK f_X1_55_1 fp_1_6 ht0 dX1_tellFacts_18 (z_nameH eh_4 (z_vretE (pc := 21) hK hE hg dX1_tellFacts_21))))))))))))))))
theorem m_X1_tellFacts {l : Launch} {G : zG} (hG : zD G) {h : zH} {t0 : Nat} {x1 : Int32} {x2 : Int32} {x3 : Int32} {x4 : Int32} (ht0 : zT t0 = (1, 0)) {r : zH} (hg : g_X1_tellFacts h t0 x1 x2 x3 x4 = some r) : zM l G yX1_tellFacts cX1_tellFacts 5 none 0 0 [.ref (G.2.2.2 t0), .int x1, .int x2, .int x3, .int x4] h (none) r :=
  zM_of hG pn_X1 (Nat.le_of_ble_eq_true rfl) (fun K _ hK hE => b_X1_tellFacts hK ht0 hE hg)
theorem dX1_push_0 : decode cX1_push 0 = .ok (.aload_n 0, 1) := by decide +kernel
theorem dX1_push_1 : decode cX1_push 1 = .ok (.getfield 70, 3) := by decide +kernel
theorem dX1_push_4 : decode cX1_push 4 = .ok (.bipush 32, 2) := by decide +kernel
theorem dX1_push_6 : decode cX1_push 6 = .ok (.if_icmp .ge 23, 3) := by decide +kernel
theorem dX1_push_9 : decode cX1_push 9 = .ok (.aload_n 0, 1) := by decide +kernel
theorem dX1_push_10 : decode cX1_push 10 = .ok (.getfield 17, 3) := by decide +kernel
theorem dX1_push_13 : decode cX1_push 13 = .ok (.aload_n 0, 1) := by decide +kernel
theorem dX1_push_14 : decode cX1_push 14 = .ok (.getfield 70, 3) := by decide +kernel
theorem dX1_push_17 : decode cX1_push 17 = .ok (.iload_n 1, 1) := by decide +kernel
theorem dX1_push_18 : decode cX1_push 18 = .ok (.iastore, 1) := by decide +kernel
theorem dX1_push_19 : decode cX1_push 19 = .ok (.aload_n 0, 1) := by decide +kernel
theorem dX1_push_20 : decode cX1_push 20 = .ok (.dup, 1) := by decide +kernel
theorem dX1_push_21 : decode cX1_push 21 = .ok (.getfield 70, 3) := by decide +kernel
theorem dX1_push_24 : decode cX1_push 24 = .ok (.iconst 1, 1) := by decide +kernel
theorem dX1_push_25 : decode cX1_push 25 = .ok (.iadd, 1) := by decide +kernel
theorem dX1_push_26 : decode cX1_push 26 = .ok (.putfield 70, 3) := by decide +kernel
theorem dX1_push_29 : decode cX1_push 29 = .ok (.return_, 1) := by decide +kernel
def g_X1_push (h : zH) (t0 : Nat) (x1 : Int32) : Option zH := if 32 ≤ (h.1 t0 2) then (some h) else (zgu (zin (h.1 t0 2) 32) <| zlet (zpi h (zR t0 1) (zx (h.1 t0 2)) x1) fun h_3 => zlet (zpi h_3 t0 2 ((h_3.1 t0 2) + 1)) fun h_4 => some h_4)
set_option maxRecDepth 100000 in
set_option maxHeartbeats 4000000 in
theorem b_X1_push {K : zK} {G : zG} (hK : zC K G cX1_push RX1 2 0 0 none) {h : zH} {t0 : Nat} {x1 : Int32} (ht0 : zT t0 = (1, 0)) {r : zH} (hE : zE K G (none) r) (hg : g_X1_push h t0 x1 = some r) : zW K G 2 0 [(0, .ref (G.2.2.2 t0)), (1, .int x1)] [] h := by
  rw [g_X1_push] at hg
  refine z_aload_n (pc := 0) hK 0 dX1_push_0 rfl (z_getI (pc := 1) hK f_X1_70_1 ht0 dX1_push_1 (z_bipush (pc := 4) hK dX1_push_4 zc_b32 (z_icmp_ge (pc := 6) hK 29 dX1_push_6 (by decide) (fun c_1 => ?_) (fun c_1 => ?_))))
  · rw [if_pos c_1] at hg
    exact z_vretE (pc := 29) hK hE hg dX1_push_29
  · rw [if_neg c_1] at hg
    obtain ⟨c_2, hg⟩ := zgu_some hg
    obtain ⟨h_3, eh_3, hg⟩ := zlet_some hg
    obtain ⟨h_4, eh_4, hg⟩ := zlet_some hg
    exact z_aload_n (pc := 9) hK 0 dX1_push_9 rfl (z_getR (pc := 10) hK f_X1_17_1 ht0 dX1_push_10 (z_aload_n (pc := 13) hK 0 dX1_push_13 rfl (z_getI (pc := 14) hK f_X1_70_1 ht0 dX1_push_14 (z_iload_n (pc := 17) hK 1 dX1_push_17 rfl (z_iast (pc := 18) hK (zt_1_1 ht0) c_2 dX1_push_18 (z_nameH eh_3 (z_aload_n (pc := 19) hK 0 dX1_push_19 rfl (z_dup (pc := 20) hK dX1_push_20 rfl (z_getI (pc := 21) hK f_X1_70_1 ht0 dX1_push_21 (z_iconst (pc := 24) hK dX1_push_24 zc_i1 (z_iadd (pc := 25) hK dX1_push_25 (z_putI (pc := 26) hK f_X1_70_1 fp_1_2 ht0 dX1_push_26 (z_nameH eh_4 (z_vretE (pc := 29) hK hE hg dX1_push_29))))))))))))))
theorem m_X1_push {l : Launch} {G : zG} (hG : zD G) {h : zH} {t0 : Nat} {x1 : Int32} (ht0 : zT t0 = (1, 0)) {r : zH} (hg : g_X1_push h t0 x1 = some r) : zM l G yX1_push cX1_push 2 none 0 0 [.ref (G.2.2.2 t0), .int x1] h (none) r :=
  zM_of hG pn_X1 (Nat.le_of_ble_eq_true rfl) (fun K _ hK hE => b_X1_push hK ht0 hE hg)
theorem dX1_fact_0 : decode cX1_fact 0 = .ok (.iload_n 1, 1) := by decide +kernel
theorem dX1_fact_1 : decode cX1_fact 1 = .ok (.tableswitch 42 38 40 #[27, 32, 37], 27) := by decide +kernel
theorem dX1_fact_28 : decode cX1_fact 28 = .ok (.aload_n 0, 1) := by decide +kernel
theorem dX1_fact_29 : decode cX1_fact 29 = .ok (.getfield 46, 3) := by decide +kernel
theorem dX1_fact_32 : decode cX1_fact 32 = .ok (.ireturn, 1) := by decide +kernel
theorem dX1_fact_33 : decode cX1_fact 33 = .ok (.aload_n 0, 1) := by decide +kernel
theorem dX1_fact_34 : decode cX1_fact 34 = .ok (.getfield 49, 3) := by decide +kernel
theorem dX1_fact_37 : decode cX1_fact 37 = .ok (.ireturn, 1) := by decide +kernel
theorem dX1_fact_38 : decode cX1_fact 38 = .ok (.aload_n 0, 1) := by decide +kernel
theorem dX1_fact_39 : decode cX1_fact 39 = .ok (.getfield 52, 3) := by decide +kernel
theorem dX1_fact_42 : decode cX1_fact 42 = .ok (.ireturn, 1) := by decide +kernel
theorem dX1_fact_43 : decode cX1_fact 43 = .ok (.aload_n 0, 1) := by decide +kernel
theorem dX1_fact_44 : decode cX1_fact 44 = .ok (.getfield 55, 3) := by decide +kernel
theorem dX1_fact_47 : decode cX1_fact 47 = .ok (.ireturn, 1) := by decide +kernel
def g_X1_fact (h : zH) (t0 : Nat) (x1 : Int32) : Option Int32 := zlet (x1) fun v_1 => if v_1 = 38 then (some (h.1 t0 3)) else if v_1 = 39 then (some (h.1 t0 4)) else if v_1 = 40 then (some (h.1 t0 5)) else some (h.1 t0 6)
set_option maxRecDepth 100000 in
set_option maxHeartbeats 4000000 in
theorem b_X1_fact {K : zK} {G : zG} (hK : zC K G cX1_fact RX1 2 0 0 (some .int)) {h : zH} {t0 : Nat} {x1 : Int32} (ht0 : zT t0 = (1, 0)) {r : Int32} (hE : zE K G (some (.int r)) h) (hg : g_X1_fact h t0 x1 = some r) : zW K G 2 0 [(0, .ref (G.2.2.2 t0)), (1, .int x1)] [] h := by
  rw [g_X1_fact] at hg
  obtain ⟨v_1, ev_1, hg⟩ := zlet_some hg
  refine z_iload_n (pc := 0) hK 1 dX1_fact_0 rfl (z_nameI ev_1 ?_)
  by_cases c_2 : v_1 = 38
  · rw [if_pos c_2] at hg
    refine z_tableIn (pc := 1) hK 28 dX1_fact_1 (by rw [c_2]; decide) (by rw [c_2]; decide) (by rw [c_2] <;> rfl) (by decide) ?_
    exact z_aload_n (pc := 28) hK 0 dX1_fact_28 rfl (z_getI (pc := 29) hK f_X1_46_1 ht0 dX1_fact_29 (z_iretP (pc := 32) hK hE hg dX1_fact_32))
  rw [if_neg c_2] at hg
  by_cases c_3 : v_1 = 39
  · rw [if_pos c_3] at hg
    refine z_tableIn (pc := 1) hK 33 dX1_fact_1 (by rw [c_3]; decide) (by rw [c_3]; decide) (by rw [c_3] <;> rfl) (by decide) ?_
    exact z_aload_n (pc := 33) hK 0 dX1_fact_33 rfl (z_getI (pc := 34) hK f_X1_49_1 ht0 dX1_fact_34 (z_iretP (pc := 37) hK hE hg dX1_fact_37))
  rw [if_neg c_3] at hg
  by_cases c_4 : v_1 = 40
  · rw [if_pos c_4] at hg
    refine z_tableIn (pc := 1) hK 38 dX1_fact_1 (by rw [c_4]; decide) (by rw [c_4]; decide) (by rw [c_4] <;> rfl) (by decide) ?_
    exact z_aload_n (pc := 38) hK 0 dX1_fact_38 rfl (z_getI (pc := 39) hK f_X1_52_1 ht0 dX1_fact_39 (z_iretP (pc := 42) hK hE hg dX1_fact_42))
  rw [if_neg c_4] at hg
  refine z_tableOut (pc := 1) hK 43 dX1_fact_1 (by have zc_2 := zne_k (n := 38) c_2 (by decide); have zc_3 := zne_k (n := 39) c_3 (by decide); have zc_4 := zne_k (n := 40) c_4 (by decide); omega) (by decide) ?_
  exact z_aload_n (pc := 43) hK 0 dX1_fact_43 rfl (z_getI (pc := 44) hK f_X1_55_1 ht0 dX1_fact_44 (z_iretP (pc := 47) hK hE hg dX1_fact_47))
theorem m_X1_fact {l : Launch} {G : zG} (hG : zD G) {h : zH} {t0 : Nat} {x1 : Int32} (ht0 : zT t0 = (1, 0)) {r : Int32} (hg : g_X1_fact h t0 x1 = some r) : zM l G yX1_fact cX1_fact 2 (some .int) 0 0 [.ref (G.2.2.2 t0), .int x1] h (some (.int r)) h :=
  zM_of hG pn_X1 (Nat.le_of_ble_eq_true rfl) (fun K _ hK hE => b_X1_fact hK ht0 hE hg)
theorem dX1_pop_0 : decode cX1_pop 0 = .ok (.aload_n 0, 1) := by decide +kernel
theorem dX1_pop_1 : decode cX1_pop 1 = .ok (.getfield 70, 3) := by decide +kernel
theorem dX1_pop_4 : decode cX1_pop 4 = .ok (.ifCond .gt 5, 3) := by decide +kernel
theorem dX1_pop_7 : decode cX1_pop 7 = .ok (.iconst 0, 1) := by decide +kernel
theorem dX1_pop_8 : decode cX1_pop 8 = .ok (.ireturn, 1) := by decide +kernel
theorem dX1_pop_9 : decode cX1_pop 9 = .ok (.aload_n 0, 1) := by decide +kernel
theorem dX1_pop_10 : decode cX1_pop 10 = .ok (.dup, 1) := by decide +kernel
theorem dX1_pop_11 : decode cX1_pop 11 = .ok (.getfield 70, 3) := by decide +kernel
theorem dX1_pop_14 : decode cX1_pop 14 = .ok (.iconst 1, 1) := by decide +kernel
theorem dX1_pop_15 : decode cX1_pop 15 = .ok (.isub, 1) := by decide +kernel
theorem dX1_pop_16 : decode cX1_pop 16 = .ok (.putfield 70, 3) := by decide +kernel
theorem dX1_pop_19 : decode cX1_pop 19 = .ok (.aload_n 0, 1) := by decide +kernel
theorem dX1_pop_20 : decode cX1_pop 20 = .ok (.getfield 17, 3) := by decide +kernel
theorem dX1_pop_23 : decode cX1_pop 23 = .ok (.aload_n 0, 1) := by decide +kernel
theorem dX1_pop_24 : decode cX1_pop 24 = .ok (.getfield 70, 3) := by decide +kernel
theorem dX1_pop_27 : decode cX1_pop 27 = .ok (.iaload, 1) := by decide +kernel
theorem dX1_pop_28 : decode cX1_pop 28 = .ok (.ireturn, 1) := by decide +kernel
def g_X1_pop (h : zH) (t0 : Nat) : Option (Int32 × zH) := if 0 < (h.1 t0 2) then (zlet (zpi h t0 2 ((h.1 t0 2) - 1)) fun h_2 => zgu (zin (h_2.1 t0 2) 32) <| some (h_2.1 (zR t0 1) (zx (h_2.1 t0 2)), h_2)) else (some (0, h))
set_option maxRecDepth 100000 in
set_option maxHeartbeats 4000000 in
theorem b_X1_pop {K : zK} {G : zG} (hK : zC K G cX1_pop RX1 1 0 0 (some .int)) {h : zH} {t0 : Nat} (ht0 : zT t0 = (1, 0)) {r : Int32 × zH} (hE : zE K G (some (.int r.1)) r.2) (hg : g_X1_pop h t0 = some r) : zW K G 1 0 [(0, .ref (G.2.2.2 t0))] [] h := by
  rw [g_X1_pop] at hg
  refine z_aload_n (pc := 0) hK 0 dX1_pop_0 rfl (z_getI (pc := 1) hK f_X1_70_1 ht0 dX1_pop_1 (z_if_gt (pc := 4) hK 9 dX1_pop_4 (by decide) (fun c_1 => ?_) (fun c_1 => ?_)))
  · rw [if_pos c_1] at hg
    obtain ⟨h_2, eh_2, hg⟩ := zlet_some hg
    obtain ⟨c_3, hg⟩ := zgu_some hg
    exact z_aload_n (pc := 9) hK 0 dX1_pop_9 rfl (z_dup (pc := 10) hK dX1_pop_10 rfl (z_getI (pc := 11) hK f_X1_70_1 ht0 dX1_pop_11 (z_iconst (pc := 14) hK dX1_pop_14 zc_i1 (z_isub (pc := 15) hK dX1_pop_15 (z_putI (pc := 16) hK f_X1_70_1 fp_1_2 ht0 dX1_pop_16 (z_nameH eh_2 (z_aload_n (pc := 19) hK 0 dX1_pop_19 rfl (z_getR (pc := 20) hK f_X1_17_1 ht0 dX1_pop_20 (z_aload_n (pc := 23) hK 0 dX1_pop_23 rfl (z_getI (pc := 24) hK f_X1_70_1 ht0 dX1_pop_24 (z_iald (pc := 27) hK (zt_1_1 ht0) c_3 dX1_pop_27 (z_iretE (pc := 28) hK hE hg dX1_pop_28))))))))))))
  · rw [if_neg c_1] at hg
    exact z_iconst (pc := 7) hK dX1_pop_7 zc_i0 (z_iretE (pc := 8) hK hE hg dX1_pop_8)
theorem m_X1_pop {l : Launch} {G : zG} (hG : zD G) {h : zH} {t0 : Nat} (ht0 : zT t0 = (1, 0)) {r : Int32 × zH} (hg : g_X1_pop h t0 = some r) : zM l G yX1_pop cX1_pop 1 (some .int) 0 0 [.ref (G.2.2.2 t0)] h (some (.int r.1)) r.2 :=
  zM_of hG pn_X1 (Nat.le_of_ble_eq_true rfl) (fun K _ hK hE => b_X1_pop hK ht0 hE hg)
theorem dX1_joined_0 : decode cX1_joined 0 = .ok (.iload_n 0, 1) := by decide +kernel
theorem dX1_joined_1 : decode cX1_joined 1 = .ok (.lookupswitch 117 #[(6, 87), (7, 98), (8, 109), (9, 113), (36, 59), (37, 73)], 59) := by decide +kernel
theorem dX1_joined_60 : decode cX1_joined 60 = .ok (.iload_n 1, 1) := by decide +kernel
theorem dX1_joined_61 : decode cX1_joined 61 = .ok (.ifCond .eq 11, 3) := by decide +kernel
theorem dX1_joined_64 : decode cX1_joined 64 = .ok (.iload_n 2, 1) := by decide +kernel
theorem dX1_joined_65 : decode cX1_joined 65 = .ok (.ifCond .eq 7, 3) := by decide +kernel
theorem dX1_joined_68 : decode cX1_joined 68 = .ok (.iconst 1, 1) := by decide +kernel
theorem dX1_joined_69 : decode cX1_joined 69 = .ok (.goto 4, 3) := by decide +kernel
theorem dX1_joined_72 : decode cX1_joined 72 = .ok (.iconst 0, 1) := by decide +kernel
theorem dX1_joined_73 : decode cX1_joined 73 = .ok (.ireturn, 1) := by decide +kernel
theorem dX1_joined_74 : decode cX1_joined 74 = .ok (.iload_n 1, 1) := by decide +kernel
theorem dX1_joined_75 : decode cX1_joined 75 = .ok (.ifCond .ne 7, 3) := by decide +kernel
theorem dX1_joined_78 : decode cX1_joined 78 = .ok (.iload_n 2, 1) := by decide +kernel
theorem dX1_joined_79 : decode cX1_joined 79 = .ok (.ifCond .eq 7, 3) := by decide +kernel
theorem dX1_joined_82 : decode cX1_joined 82 = .ok (.iconst 1, 1) := by decide +kernel
theorem dX1_joined_83 : decode cX1_joined 83 = .ok (.goto 4, 3) := by decide +kernel
theorem dX1_joined_86 : decode cX1_joined 86 = .ok (.iconst 0, 1) := by decide +kernel
theorem dX1_joined_87 : decode cX1_joined 87 = .ok (.ireturn, 1) := by decide +kernel
theorem dX1_joined_88 : decode cX1_joined 88 = .ok (.iload_n 1, 1) := by decide +kernel
theorem dX1_joined_89 : decode cX1_joined 89 = .ok (.iload_n 2, 1) := by decide +kernel
theorem dX1_joined_90 : decode cX1_joined 90 = .ok (.if_icmp .ge 7, 3) := by decide +kernel
theorem dX1_joined_93 : decode cX1_joined 93 = .ok (.iconst 1, 1) := by decide +kernel
theorem dX1_joined_94 : decode cX1_joined 94 = .ok (.goto 4, 3) := by decide +kernel
theorem dX1_joined_97 : decode cX1_joined 97 = .ok (.iconst 0, 1) := by decide +kernel
theorem dX1_joined_98 : decode cX1_joined 98 = .ok (.ireturn, 1) := by decide +kernel
theorem dX1_joined_99 : decode cX1_joined 99 = .ok (.iload_n 1, 1) := by decide +kernel
theorem dX1_joined_100 : decode cX1_joined 100 = .ok (.iload_n 2, 1) := by decide +kernel
theorem dX1_joined_101 : decode cX1_joined 101 = .ok (.if_icmp .ne 7, 3) := by decide +kernel
theorem dX1_joined_104 : decode cX1_joined 104 = .ok (.iconst 1, 1) := by decide +kernel
theorem dX1_joined_105 : decode cX1_joined 105 = .ok (.goto 4, 3) := by decide +kernel
theorem dX1_joined_108 : decode cX1_joined 108 = .ok (.iconst 0, 1) := by decide +kernel
theorem dX1_joined_109 : decode cX1_joined 109 = .ok (.ireturn, 1) := by decide +kernel
theorem dX1_joined_110 : decode cX1_joined 110 = .ok (.iload_n 1, 1) := by decide +kernel
theorem dX1_joined_111 : decode cX1_joined 111 = .ok (.iload_n 2, 1) := by decide +kernel
theorem dX1_joined_112 : decode cX1_joined 112 = .ok (.iadd, 1) := by decide +kernel
theorem dX1_joined_113 : decode cX1_joined 113 = .ok (.ireturn, 1) := by decide +kernel
theorem dX1_joined_114 : decode cX1_joined 114 = .ok (.iload_n 1, 1) := by decide +kernel
theorem dX1_joined_115 : decode cX1_joined 115 = .ok (.iload_n 2, 1) := by decide +kernel
theorem dX1_joined_116 : decode cX1_joined 116 = .ok (.isub, 1) := by decide +kernel
theorem dX1_joined_117 : decode cX1_joined 117 = .ok (.ireturn, 1) := by decide +kernel
theorem dX1_joined_118 : decode cX1_joined 118 = .ok (.iload_n 1, 1) := by decide +kernel
theorem dX1_joined_119 : decode cX1_joined 119 = .ok (.iload_n 2, 1) := by decide +kernel
theorem dX1_joined_120 : decode cX1_joined 120 = .ok (.imul, 1) := by decide +kernel
theorem dX1_joined_121 : decode cX1_joined 121 = .ok (.ireturn, 1) := by decide +kernel
def g_X1_joined (h : zH) (x0 : Int32) (x1 : Int32) (x2 : Int32) : Option Int32 := zlet (x0) fun v_1 => if v_1 = 6 then (if x2 ≤ x1 then (some 0) else (some 1)) else if v_1 = 7 then (if x1 = x2 then (some 1) else (some 0)) else if v_1 = 8 then (some (x1 + x2)) else if v_1 = 9 then (some (x1 - x2)) else if v_1 = 36 then (if x1 = 0 then (some 0) else (if x2 = 0 then (some 0) else (some 1))) else if v_1 = 37 then (if x1 = 0 then (if x2 = 0 then (some 0) else (some 1)) else (some 1)) else some (x1 * x2)
set_option maxRecDepth 100000 in
set_option maxHeartbeats 4000000 in
theorem b_X1_joined {K : zK} {G : zG} (hK : zC K G cX1_joined RX1 3 0 0 (some .int)) {h : zH} {x0 : Int32} {x1 : Int32} {x2 : Int32}  {r : Int32} (hE : zE K G (some (.int r)) h) (hg : g_X1_joined h x0 x1 x2 = some r) : zW K G 3 0 [(0, .int x0), (1, .int x1), (2, .int x2)] [] h := by
  rw [g_X1_joined] at hg
  obtain ⟨v_1, ev_1, hg⟩ := zlet_some hg
  refine z_iload_n (pc := 0) hK 0 dX1_joined_0 rfl (z_nameI ev_1 ?_)
  by_cases c_2 : v_1 = 6
  · rw [if_pos c_2] at hg
    refine z_lookup (pc := 1) hK 88 dX1_joined_1 (by decide) (by rw [c_2] <;> rfl) (by decide) ?_
    refine z_iload_n (pc := 88) hK 1 dX1_joined_88 rfl (z_iload_n (pc := 89) hK 2 dX1_joined_89 rfl (z_icmp_ge (pc := 90) hK 97 dX1_joined_90 (by decide) (fun c_3 => ?_) (fun c_3 => ?_)))
    · rw [if_pos c_3] at hg
      exact z_iconst (pc := 97) hK dX1_joined_97 zc_i0 (z_iretP (pc := 98) hK hE hg dX1_joined_98)
    · rw [if_neg c_3] at hg
      exact z_iconst (pc := 93) hK dX1_joined_93 zc_i1 (z_goto (pc := 94) hK 98 dX1_joined_94 (by decide) (z_iretP (pc := 98) hK hE hg dX1_joined_98))
  rw [if_neg c_2] at hg
  by_cases c_4 : v_1 = 7
  · rw [if_pos c_4] at hg
    refine z_lookup (pc := 1) hK 99 dX1_joined_1 (by decide) (by rw [c_4] <;> rfl) (by decide) ?_
    refine z_iload_n (pc := 99) hK 1 dX1_joined_99 rfl (z_iload_n (pc := 100) hK 2 dX1_joined_100 rfl (z_icmp_ne (pc := 101) hK 108 dX1_joined_101 (by decide) (fun c_5 => ?_) (fun c_5 => ?_)))
    · rw [if_neg c_5] at hg
      exact z_iconst (pc := 108) hK dX1_joined_108 zc_i0 (z_iretP (pc := 109) hK hE hg dX1_joined_109)
    · rw [if_pos c_5] at hg
      exact z_iconst (pc := 104) hK dX1_joined_104 zc_i1 (z_goto (pc := 105) hK 109 dX1_joined_105 (by decide) (z_iretP (pc := 109) hK hE hg dX1_joined_109))
  rw [if_neg c_4] at hg
  by_cases c_6 : v_1 = 8
  · rw [if_pos c_6] at hg
    refine z_lookup (pc := 1) hK 110 dX1_joined_1 (by decide) (by rw [c_6] <;> rfl) (by decide) ?_
    exact z_iload_n (pc := 110) hK 1 dX1_joined_110 rfl (z_iload_n (pc := 111) hK 2 dX1_joined_111 rfl (z_iadd (pc := 112) hK dX1_joined_112 (z_iretP (pc := 113) hK hE hg dX1_joined_113)))
  rw [if_neg c_6] at hg
  by_cases c_7 : v_1 = 9
  · rw [if_pos c_7] at hg
    refine z_lookup (pc := 1) hK 114 dX1_joined_1 (by decide) (by rw [c_7] <;> rfl) (by decide) ?_
    exact z_iload_n (pc := 114) hK 1 dX1_joined_114 rfl (z_iload_n (pc := 115) hK 2 dX1_joined_115 rfl (z_isub (pc := 116) hK dX1_joined_116 (z_iretP (pc := 117) hK hE hg dX1_joined_117)))
  rw [if_neg c_7] at hg
  by_cases c_8 : v_1 = 36
  · rw [if_pos c_8] at hg
    refine z_lookup (pc := 1) hK 60 dX1_joined_1 (by decide) (by rw [c_8] <;> rfl) (by decide) ?_
    refine z_iload_n (pc := 60) hK 1 dX1_joined_60 rfl (z_if_eq (pc := 61) hK 72 dX1_joined_61 (by decide) (fun c_9 => ?_) (fun c_9 => ?_))
    · rw [if_pos c_9] at hg
      exact z_iconst (pc := 72) hK dX1_joined_72 zc_i0 (z_iretP (pc := 73) hK hE hg dX1_joined_73)
    · rw [if_neg c_9] at hg
      refine z_iload_n (pc := 64) hK 2 dX1_joined_64 rfl (z_if_eq (pc := 65) hK 72 dX1_joined_65 (by decide) (fun c_10 => ?_) (fun c_10 => ?_))
      · rw [if_pos c_10] at hg
        exact z_iconst (pc := 72) hK dX1_joined_72 zc_i0 (z_iretP (pc := 73) hK hE hg dX1_joined_73)
      · rw [if_neg c_10] at hg
        exact z_iconst (pc := 68) hK dX1_joined_68 zc_i1 (z_goto (pc := 69) hK 73 dX1_joined_69 (by decide) (z_iretP (pc := 73) hK hE hg dX1_joined_73))
  rw [if_neg c_8] at hg
  by_cases c_11 : v_1 = 37
  · rw [if_pos c_11] at hg
    refine z_lookup (pc := 1) hK 74 dX1_joined_1 (by decide) (by rw [c_11] <;> rfl) (by decide) ?_
    refine z_iload_n (pc := 74) hK 1 dX1_joined_74 rfl (z_if_ne (pc := 75) hK 82 dX1_joined_75 (by decide) (fun c_12 => ?_) (fun c_12 => ?_))
    · rw [if_neg c_12] at hg
      exact z_iconst (pc := 82) hK dX1_joined_82 zc_i1 (z_goto (pc := 83) hK 87 dX1_joined_83 (by decide) (z_iretP (pc := 87) hK hE hg dX1_joined_87))
    · rw [if_pos c_12] at hg
      refine z_iload_n (pc := 78) hK 2 dX1_joined_78 rfl (z_if_eq (pc := 79) hK 86 dX1_joined_79 (by decide) (fun c_13 => ?_) (fun c_13 => ?_))
      · rw [if_pos c_13] at hg
        exact z_iconst (pc := 86) hK dX1_joined_86 zc_i0 (z_iretP (pc := 87) hK hE hg dX1_joined_87)
      · rw [if_neg c_13] at hg
        exact z_iconst (pc := 82) hK dX1_joined_82 zc_i1 (z_goto (pc := 83) hK 87 dX1_joined_83 (by decide) (z_iretP (pc := 87) hK hE hg dX1_joined_87))
  rw [if_neg c_11] at hg
  refine z_lookup (pc := 1) hK 118 dX1_joined_1 (by decide) (zlook_none (by simp only [List.all_cons, List.all_nil, Bool.and_true, Bool.and_eq_true, decide_eq_true_eq]; exact ⟨zne_k (n := 6) c_2 (by decide), zne_k (n := 7) c_4 (by decide), zne_k (n := 8) c_6 (by decide), zne_k (n := 9) c_7 (by decide), zne_k (n := 36) c_8 (by decide), zne_k (n := 37) c_11 (by decide)⟩)) (by decide) ?_
  exact z_iload_n (pc := 118) hK 1 dX1_joined_118 rfl (z_iload_n (pc := 119) hK 2 dX1_joined_119 rfl (z_imul (pc := 120) hK dX1_joined_120 (z_iretP (pc := 121) hK hE hg dX1_joined_121)))
theorem m_X1_joined {l : Launch} {G : zG} (hG : zD G) {h : zH} {x0 : Int32} {x1 : Int32} {x2 : Int32}  {r : Int32} (hg : g_X1_joined h x0 x1 x2 = some r) : zM l G yX1_joined cX1_joined 3 (some .int) 0 0 [.int x0, .int x1, .int x2] h (some (.int r)) h :=
  zM_of hG pn_X1 (Nat.le_of_ble_eq_true rfl) (fun K _ hK hE => b_X1_joined hK  hE hg)
theorem dX1_worth_0 : decode cX1_worth 0 = .ok (.aload_n 0, 1) := by decide +kernel
theorem dX1_worth_1 : decode cX1_worth 1 = .ok (.iconst 0, 1) := by decide +kernel
theorem dX1_worth_2 : decode cX1_worth 2 = .ok (.putfield 70, 3) := by decide +kernel
theorem dX1_worth_5 : decode cX1_worth 5 = .ok (.iload_n 1, 1) := by decide +kernel
theorem dX1_worth_6 : decode cX1_worth 6 = .ok (.istore_n 3, 1) := by decide +kernel
theorem dX1_worth_7 : decode cX1_worth 7 = .ok (.iload_n 3, 1) := by decide +kernel
theorem dX1_worth_8 : decode cX1_worth 8 = .ok (.iload_n 2, 1) := by decide +kernel
theorem dX1_worth_9 : decode cX1_worth 9 = .ok (.if_icmp .ge 104, 3) := by decide +kernel
theorem dX1_worth_12 : decode cX1_worth 12 = .ok (.aload_n 0, 1) := by decide +kernel
theorem dX1_worth_13 : decode cX1_worth 13 = .ok (.getfield 11, 3) := by decide +kernel
theorem dX1_worth_16 : decode cX1_worth 16 = .ok (.iload_n 3, 1) := by decide +kernel
theorem dX1_worth_17 : decode cX1_worth 17 = .ok (.iaload, 1) := by decide +kernel
theorem dX1_worth_18 : decode cX1_worth 18 = .ok (.istore 4, 2) := by decide +kernel
theorem dX1_worth_20 : decode cX1_worth 20 = .ok (.iload 4, 2) := by decide +kernel
theorem dX1_worth_22 : decode cX1_worth 22 = .ok (.ifCond .ge 14, 3) := by decide +kernel
theorem dX1_worth_25 : decode cX1_worth 25 = .ok (.aload_n 0, 1) := by decide +kernel
theorem dX1_worth_26 : decode cX1_worth 26 = .ok (.iload 4, 2) := by decide +kernel
theorem dX1_worth_28 : decode cX1_worth 28 = .ok (.iconst (-1), 1) := by decide +kernel
theorem dX1_worth_29 : decode cX1_worth 29 = .ok (.ixor, 1) := by decide +kernel
theorem dX1_worth_30 : decode cX1_worth 30 = .ok (.invokevirtual 73, 3) := by decide +kernel
theorem dX1_worth_33 : decode cX1_worth 33 = .ok (.goto 74, 3) := by decide +kernel
theorem dX1_worth_36 : decode cX1_worth 36 = .ok (.iload 4, 2) := by decide +kernel
theorem dX1_worth_38 : decode cX1_worth 38 = .ok (.bipush 38, 2) := by decide +kernel
theorem dX1_worth_40 : decode cX1_worth 40 = .ok (.if_icmp .lt 16, 3) := by decide +kernel
theorem dX1_worth_43 : decode cX1_worth 43 = .ok (.aload_n 0, 1) := by decide +kernel
theorem dX1_worth_44 : decode cX1_worth 44 = .ok (.aload_n 0, 1) := by decide +kernel
theorem dX1_worth_45 : decode cX1_worth 45 = .ok (.iload 4, 2) := by decide +kernel
theorem dX1_worth_47 : decode cX1_worth 47 = .ok (.invokevirtual 76, 3) := by decide +kernel
theorem dX1_worth_50 : decode cX1_worth 50 = .ok (.invokevirtual 73, 3) := by decide +kernel
theorem dX1_worth_53 : decode cX1_worth 53 = .ok (.goto 54, 3) := by decide +kernel
theorem dX1_worth_56 : decode cX1_worth 56 = .ok (.iload 4, 2) := by decide +kernel
theorem dX1_worth_58 : decode cX1_worth 58 = .ok (.bipush 35, 2) := by decide +kernel
theorem dX1_worth_60 : decode cX1_worth 60 = .ok (.if_icmp .ne 22, 3) := by decide +kernel
theorem dX1_worth_63 : decode cX1_worth 63 = .ok (.aload_n 0, 1) := by decide +kernel
theorem dX1_worth_64 : decode cX1_worth 64 = .ok (.aload_n 0, 1) := by decide +kernel
theorem dX1_worth_65 : decode cX1_worth 65 = .ok (.invokevirtual 80, 3) := by decide +kernel
theorem dX1_worth_68 : decode cX1_worth 68 = .ok (.ifCond .ne 7, 3) := by decide +kernel
theorem dX1_worth_71 : decode cX1_worth 71 = .ok (.iconst 1, 1) := by decide +kernel
theorem dX1_worth_72 : decode cX1_worth 72 = .ok (.goto 4, 3) := by decide +kernel
theorem dX1_worth_75 : decode cX1_worth 75 = .ok (.iconst 0, 1) := by decide +kernel
theorem dX1_worth_76 : decode cX1_worth 76 = .ok (.invokevirtual 73, 3) := by decide +kernel
theorem dX1_worth_79 : decode cX1_worth 79 = .ok (.goto 28, 3) := by decide +kernel
theorem dX1_worth_82 : decode cX1_worth 82 = .ok (.aload_n 0, 1) := by decide +kernel
theorem dX1_worth_83 : decode cX1_worth 83 = .ok (.invokevirtual 80, 3) := by decide +kernel
theorem dX1_worth_86 : decode cX1_worth 86 = .ok (.istore 5, 2) := by decide +kernel
theorem dX1_worth_88 : decode cX1_worth 88 = .ok (.aload_n 0, 1) := by decide +kernel
theorem dX1_worth_89 : decode cX1_worth 89 = .ok (.invokevirtual 80, 3) := by decide +kernel
theorem dX1_worth_92 : decode cX1_worth 92 = .ok (.istore 6, 2) := by decide +kernel
theorem dX1_worth_94 : decode cX1_worth 94 = .ok (.aload_n 0, 1) := by decide +kernel
theorem dX1_worth_95 : decode cX1_worth 95 = .ok (.iload 4, 2) := by decide +kernel
theorem dX1_worth_97 : decode cX1_worth 97 = .ok (.iload 6, 2) := by decide +kernel
theorem dX1_worth_99 : decode cX1_worth 99 = .ok (.iload 5, 2) := by decide +kernel
theorem dX1_worth_101 : decode cX1_worth 101 = .ok (.invokestatic 84, 3) := by decide +kernel
theorem dX1_worth_104 : decode cX1_worth 104 = .ok (.invokevirtual 73, 3) := by decide +kernel
theorem dX1_worth_107 : decode cX1_worth 107 = .ok (.iinc 3 1, 3) := by decide +kernel
theorem dX1_worth_110 : decode cX1_worth 110 = .ok (.goto (-103), 3) := by decide +kernel
theorem dX1_worth_113 : decode cX1_worth 113 = .ok (.aload_n 0, 1) := by decide +kernel
theorem dX1_worth_114 : decode cX1_worth 114 = .ok (.invokevirtual 80, 3) := by decide +kernel
theorem dX1_worth_117 : decode cX1_worth 117 = .ok (.ireturn, 1) := by decide +kernel
def g_X1_worth_76 (t0 : Nat) (k7 : Int32 → Int32 → zH → Option (Int32 × zH)) (x2 : Int32) (x3 : Int32) (s0 : Int32) (h : zH) : Option (Int32 × zH) := (g_X1_push h t0 s0).bind fun v_18 => k7 x2 (x3 + 1) v_18
def g_X1_worth_7 (t0 : Nat)  : Nat → Int32 → Int32 → zH → Option (Int32 × zH)
  | 0, _, _, _ => none
  | n + 1, x2, x3, h => if x2 ≤ x3 then ((g_X1_pop h t0).bind fun v_3 => some (v_3.1, v_3.2)) else (zgu (zin x3 1000) <| zlet (h.1 (zR t0 0) (zx x3)) fun v_5 => if 0 ≤ v_5 then (if v_5 < 38 then (if v_5 = 35 then ((g_X1_pop h t0).bind fun v_13 => if v_13.1 = 0 then (g_X1_worth_76 t0 (g_X1_worth_7 t0 n) x2 x3 1 v_13.2) else (g_X1_worth_76 t0 (g_X1_worth_7 t0 n) x2 x3 0 v_13.2)) else ((g_X1_pop h t0).bind fun v_9 => (g_X1_pop v_9.2 t0).bind fun v_10 => (g_X1_joined v_10.2 v_5 v_10.1 v_9.1).bind fun v_11 => (g_X1_push v_10.2 t0 v_11).bind fun v_12 => g_X1_worth_7 t0 n x2 (x3 + 1) v_12)) else ((g_X1_fact h t0 v_5).bind fun v_15 => (g_X1_push h t0 v_15).bind fun v_16 => g_X1_worth_7 t0 n x2 (x3 + 1) v_16)) else ((g_X1_push h t0 (v_5 ^^^ (-1))).bind fun v_17 => g_X1_worth_7 t0 n x2 (x3 + 1) v_17))
def g_X1_worth (h : zH) (t0 : Nat) (x1 : Int32) (x2 : Int32) : Option (Int32 × zH) := zlet (zpi h t0 2 0) fun h_1 => g_X1_worth_7 t0 zfu x2 x1 h_1
set_option maxRecDepth 100000 in
set_option maxHeartbeats 4000000 in
theorem b_X1_worth_76 {K : zK} {G : zG} (hK : zC K G cX1_worth RX1 7 1 22 (some .int)) {t0 : Nat} (ht0 : zT t0 = (1, 0)) {r : Int32 × zH} (hE : zE K G (some (.int r.1)) r.2) {k7 : Int32 → Int32 → zH → Option (Int32 × zH)} (hk7 : ∀ (x2 : Int32) (x3 : Int32) (h : zH), k7 x2 x3 h = some r → zW K G 7 7 [(0, .ref (G.2.2.2 t0)), (2, .int x2), (3, .int x3)] [] h) (x2 : Int32) (x3 : Int32) (s0 : Int32) (h : zH) (hg : g_X1_worth_76 t0 k7 x2 x3 s0 h = some r) : zW K G 7 76 [(0, .ref (G.2.2.2 t0)), (2, .int x2), (3, .int x3)] [.int s0, .ref (G.2.2.2 t0)] h := by
  rw [g_X1_worth_76] at hg
  obtain ⟨v_18, qv_18, hg⟩ := zbind_some hg
  exact z_callVv (pc := 76) hK [.int s0] (m_X1_push (zC_D hK) ht0 qv_18) sv_X1_push q_961 ht0 rfl [] rfl (Nat.le_of_ble_eq_true rfl) ⟨by decide, by decide⟩ dX1_worth_76 (z_goto (pc := 79) hK 107 dX1_worth_79 (by decide) (z_iinc (pc := 107) hK 2 (lv' := [(3, .int (x3 + 1)), (0, .ref (G.2.2.2 t0)), (2, .int x2)]) dX1_worth_107 rfl (zc_n1 _) (by decide) rfl (z_goto (pc := 110) hK 7 dX1_worth_110 (by decide) (zsub (lv' := [(0, .ref (G.2.2.2 t0)), (2, .int x2), (3, .int (x3 + 1))]) [1, 2, 0] rfl (hk7 x2 (x3 + 1) v_18 hg)))))
set_option maxRecDepth 100000 in
set_option maxHeartbeats 4000000 in
theorem b_X1_worth_7 {K : zK} {G : zG} (hK : zC K G cX1_worth RX1 7 1 22 (some .int)) {t0 : Nat} (ht0 : zT t0 = (1, 0)) {r : Int32 × zH} (hE : zE K G (some (.int r.1)) r.2) : ∀ (n : Nat) (x2 : Int32) (x3 : Int32) (h : zH), g_X1_worth_7 t0 n x2 x3 h = some r → zW K G 7 7 [(0, .ref (G.2.2.2 t0)), (2, .int x2), (3, .int x3)] [] h := by
  intro n
  induction n with
  | zero => intro x2 x3 h hg; exact nomatch (show none = some r from hg)
  | succ n ih =>
    intro x2 x3 h hg
    rw [g_X1_worth_7] at hg
    refine z_iload_n (pc := 7) hK 2 dX1_worth_7 rfl (z_iload_n (pc := 8) hK 1 dX1_worth_8 rfl (z_icmp_ge (pc := 9) hK 113 dX1_worth_9 (by decide) (fun c_2 => ?_) (fun c_2 => ?_)))
    · rw [if_pos c_2] at hg
      obtain ⟨v_3, qv_3, hg⟩ := zbind_some hg
      exact z_aload_n (pc := 113) hK 0 dX1_worth_113 rfl (z_callVi (pc := 114) hK [] (m_X1_pop (zC_D hK) ht0 qv_3) sv_X1_pop q_969 ht0 rfl [] rfl (Nat.le_of_ble_eq_true rfl) ⟨by decide, by decide⟩ dX1_worth_114 (z_iretE (pc := 117) hK hE hg dX1_worth_117))
    · rw [if_neg c_2] at hg
      obtain ⟨c_4, hg⟩ := zgu_some hg
      obtain ⟨v_5, ev_5, hg⟩ := zlet_some hg
      refine z_aload_n (pc := 12) hK 0 dX1_worth_12 rfl (z_getR (pc := 13) hK f_X1_11_1 ht0 dX1_worth_13 (z_iload_n (pc := 16) hK 2 dX1_worth_16 rfl (z_iald (pc := 17) hK (zt_1_0 ht0) c_4 dX1_worth_17 (z_nameI ev_5 (z_istore (pc := 18) hK (lv' := [(4, .int v_5), (0, .ref (G.2.2.2 t0)), (2, .int x2), (3, .int x3)]) dX1_worth_18 (by decide) rfl (z_iload (pc := 20) hK 0 dX1_worth_20 rfl (z_if_ge (pc := 22) hK 36 dX1_worth_22 (by decide) (fun c_6 => ?_) (fun c_6 => ?_))))))))
      · rw [if_pos c_6] at hg
        refine z_iload (pc := 36) hK 0 dX1_worth_36 rfl (z_bipush (pc := 38) hK dX1_worth_38 zc_b38 (z_icmp_lt (pc := 40) hK 56 dX1_worth_40 (by decide) (fun c_7 => ?_) (fun c_7 => ?_)))
        · rw [if_pos c_7] at hg
          refine z_iload (pc := 56) hK 0 dX1_worth_56 rfl (z_bipush (pc := 58) hK dX1_worth_58 zc_b35 (z_icmp_ne (pc := 60) hK 82 dX1_worth_60 (by decide) (fun c_8 => ?_) (fun c_8 => ?_)))
          · rw [if_neg c_8] at hg
            obtain ⟨v_9, qv_9, hg⟩ := zbind_some hg
            obtain ⟨v_10, qv_10, hg⟩ := zbind_some hg
            obtain ⟨v_11, qv_11, hg⟩ := zbind_some hg
            obtain ⟨v_12, qv_12, hg⟩ := zbind_some hg
            exact z_aload_n (pc := 82) hK 1 dX1_worth_82 rfl (z_callVi (pc := 83) hK [] (m_X1_pop (zC_D hK) ht0 qv_9) sv_X1_pop q_969 ht0 rfl [] rfl (Nat.le_of_ble_eq_true rfl) ⟨by decide, by decide⟩ dX1_worth_83 (z_istore (pc := 86) hK (lv' := [(5, .int v_9.1), (4, .int v_5), (0, .ref (G.2.2.2 t0)), (2, .int x2), (3, .int x3)]) dX1_worth_86 (by decide) rfl (z_aload_n (pc := 88) hK 2 dX1_worth_88 rfl (z_callVi (pc := 89) hK [] (m_X1_pop (zC_D hK) ht0 qv_10) sv_X1_pop q_969 ht0 rfl [] rfl (Nat.le_of_ble_eq_true rfl) ⟨by decide, by decide⟩ dX1_worth_89 (z_istore (pc := 92) hK (lv' := [(6, .int v_10.1), (5, .int v_9.1), (4, .int v_5), (0, .ref (G.2.2.2 t0)), (2, .int x2), (3, .int x3)]) dX1_worth_92 (by decide) rfl (z_aload_n (pc := 94) hK 3 dX1_worth_94 rfl (z_iload (pc := 95) hK 2 dX1_worth_95 rfl (z_iload (pc := 97) hK 0 dX1_worth_97 rfl (z_iload (pc := 99) hK 1 dX1_worth_99 rfl (z_callSi (pc := 101) hK [.int v_5, .int v_10.1, .int v_9.1] (m_X1_joined (zC_D hK) qv_11) ss_X1_joined q_973 rfl [.ref (G.2.2.2 t0)] rfl (Nat.le_of_ble_eq_true rfl) ⟨by decide, by decide⟩ dX1_worth_101 (z_callVv (pc := 104) hK [.int v_11] (m_X1_push (zC_D hK) ht0 qv_12) sv_X1_push q_961 ht0 rfl [] rfl (Nat.le_of_ble_eq_true rfl) ⟨by decide, by decide⟩ dX1_worth_104 (z_iinc (pc := 107) hK 5 (lv' := [(3, .int (x3 + 1)), (6, .int v_10.1), (5, .int v_9.1), (4, .int v_5), (0, .ref (G.2.2.2 t0)), (2, .int x2)]) dX1_worth_107 rfl (zc_n1 _) (by decide) rfl (z_goto (pc := 110) hK 7 dX1_worth_110 (by decide) (zsub (lv' := [(0, .ref (G.2.2.2 t0)), (2, .int x2), (3, .int (x3 + 1))]) [4, 5, 0] rfl (ih x2 (x3 + 1) v_12 hg)))))))))))))))
          · rw [if_pos c_8] at hg
            obtain ⟨v_13, qv_13, hg⟩ := zbind_some hg
            refine z_aload_n (pc := 63) hK 1 dX1_worth_63 rfl (z_aload_n (pc := 64) hK 1 dX1_worth_64 rfl (z_callVi (pc := 65) hK [] (m_X1_pop (zC_D hK) ht0 qv_13) sv_X1_pop q_969 ht0 rfl [.ref (G.2.2.2 t0)] rfl (Nat.le_of_ble_eq_true rfl) ⟨by decide, by decide⟩ dX1_worth_65 (z_if_ne (pc := 68) hK 75 dX1_worth_68 (by decide) (fun c_14 => ?_) (fun c_14 => ?_))))
            · rw [if_neg c_14] at hg
              exact z_iconst (pc := 75) hK dX1_worth_75 zc_i0 (zsub (lv' := [(0, .ref (G.2.2.2 t0)), (2, .int x2), (3, .int x3)]) [1, 2, 3] rfl (b_X1_worth_76 hK ht0 hE ih x2 x3 0 v_13.2 hg))
            · rw [if_pos c_14] at hg
              exact z_iconst (pc := 71) hK dX1_worth_71 zc_i1 (z_goto (pc := 72) hK 76 dX1_worth_72 (by decide) (zsub (lv' := [(0, .ref (G.2.2.2 t0)), (2, .int x2), (3, .int x3)]) [1, 2, 3] rfl (b_X1_worth_76 hK ht0 hE ih x2 x3 1 v_13.2 hg)))
        · rw [if_neg c_7] at hg
          obtain ⟨v_15, qv_15, hg⟩ := zbind_some hg
          obtain ⟨v_16, qv_16, hg⟩ := zbind_some hg
          exact z_aload_n (pc := 43) hK 1 dX1_worth_43 rfl (z_aload_n (pc := 44) hK 1 dX1_worth_44 rfl (z_iload (pc := 45) hK 0 dX1_worth_45 rfl (z_callVi (pc := 47) hK [.int v_5] (m_X1_fact (zC_D hK) ht0 qv_15) sv_X1_fact q_965 ht0 rfl [.ref (G.2.2.2 t0)] rfl (Nat.le_of_ble_eq_true rfl) ⟨by decide, by decide⟩ dX1_worth_47 (z_callVv (pc := 50) hK [.int v_15] (m_X1_push (zC_D hK) ht0 qv_16) sv_X1_push q_961 ht0 rfl [] rfl (Nat.le_of_ble_eq_true rfl) ⟨by decide, by decide⟩ dX1_worth_50 (z_goto (pc := 53) hK 107 dX1_worth_53 (by decide) (z_iinc (pc := 107) hK 3 (lv' := [(3, .int (x3 + 1)), (4, .int v_5), (0, .ref (G.2.2.2 t0)), (2, .int x2)]) dX1_worth_107 rfl (zc_n1 _) (by decide) rfl (z_goto (pc := 110) hK 7 dX1_worth_110 (by decide) (zsub (lv' := [(0, .ref (G.2.2.2 t0)), (2, .int x2), (3, .int (x3 + 1))]) [2, 3, 0] rfl (ih x2 (x3 + 1) v_16 hg)))))))))
      · rw [if_neg c_6] at hg
        obtain ⟨v_17, qv_17, hg⟩ := zbind_some hg
        exact z_aload_n (pc := 25) hK 1 dX1_worth_25 rfl (z_iload (pc := 26) hK 0 dX1_worth_26 rfl (z_iconst (pc := 28) hK dX1_worth_28 zc_im1 (z_ixor (pc := 29) hK dX1_worth_29 (z_callVv (pc := 30) hK [.int (v_5 ^^^ (-1))] (m_X1_push (zC_D hK) ht0 qv_17) sv_X1_push q_961 ht0 rfl [] rfl (Nat.le_of_ble_eq_true rfl) ⟨by decide, by decide⟩ dX1_worth_30 (z_goto (pc := 33) hK 107 dX1_worth_33 (by decide) (z_iinc (pc := 107) hK 3 (lv' := [(3, .int (x3 + 1)), (4, .int v_5), (0, .ref (G.2.2.2 t0)), (2, .int x2)]) dX1_worth_107 rfl (zc_n1 _) (by decide) rfl (z_goto (pc := 110) hK 7 dX1_worth_110 (by decide) (zsub (lv' := [(0, .ref (G.2.2.2 t0)), (2, .int x2), (3, .int (x3 + 1))]) [2, 3, 0] rfl (ih x2 (x3 + 1) v_17 hg)))))))))
set_option maxRecDepth 100000 in
set_option maxHeartbeats 4000000 in
theorem b_X1_worth {K : zK} {G : zG} (hK : zC K G cX1_worth RX1 7 1 22 (some .int)) {h : zH} {t0 : Nat} {x1 : Int32} {x2 : Int32} (ht0 : zT t0 = (1, 0)) {r : Int32 × zH} (hE : zE K G (some (.int r.1)) r.2) (hg : g_X1_worth h t0 x1 x2 = some r) : zW K G 7 0 [(0, .ref (G.2.2.2 t0)), (1, .int x1), (2, .int x2)] [] h := by
  rw [g_X1_worth] at hg
  obtain ⟨h_1, eh_1, hg⟩ := zlet_some hg
  exact z_aload_n (pc := 0) hK 0 dX1_worth_0 rfl (z_iconst (pc := 1) hK dX1_worth_1 zc_i0 (z_putI (pc := 2) hK f_X1_70_1 fp_1_2 ht0 dX1_worth_2 (z_nameH eh_1 (z_iload_n (pc := 5) hK 1 dX1_worth_5 rfl (z_istore_n (pc := 6) hK (lv' := [(3, .int x1), (0, .ref (G.2.2.2 t0)), (1, .int x1), (2, .int x2)]) dX1_worth_6 (by decide) rfl (zsub (lv' := [(0, .ref (G.2.2.2 t0)), (2, .int x2), (3, .int x1)]) [1, 3, 0] rfl (b_X1_worth_7 hK ht0 hE zfu x2 x1 h_1 hg)))))))
theorem m_X1_worth {l : Launch} {G : zG} (hG : zD G) {h : zH} {t0 : Nat} {x1 : Int32} {x2 : Int32} (ht0 : zT t0 = (1, 0)) {r : Int32 × zH} (hg : g_X1_worth h t0 x1 x2 = some r) : zM l G yX1_worth cX1_worth 7 (some .int) 1 22 [.ref (G.2.2.2 t0), .int x1, .int x2] h (some (.int r.1)) r.2 :=
  zM_of hG pn_X1 (Nat.le_of_ble_eq_true rfl) (fun K _ hK hE => b_X1_worth hK ht0 hE hg)
theorem dX1_growth_0 : decode cX1_growth 0 = .ok (.aload_n 0, 1) := by decide +kernel
theorem dX1_growth_1 : decode cX1_growth 1 = .ok (.getfield 24, 3) := by decide +kernel
theorem dX1_growth_4 : decode cX1_growth 4 = .ok (.aload_n 0, 1) := by decide +kernel
theorem dX1_growth_5 : decode cX1_growth 5 = .ok (.getfield 27, 3) := by decide +kernel
theorem dX1_growth_8 : decode cX1_growth 8 = .ok (.if_icmp .ne 17, 3) := by decide +kernel
theorem dX1_growth_11 : decode cX1_growth 11 = .ok (.aload_n 0, 1) := by decide +kernel
theorem dX1_growth_12 : decode cX1_growth 12 = .ok (.getfield 49, 3) := by decide +kernel
theorem dX1_growth_15 : decode cX1_growth 15 = .ok (.iconst 4, 1) := by decide +kernel
theorem dX1_growth_16 : decode cX1_growth 16 = .ok (.if_icmp .le 7, 3) := by decide +kernel
theorem dX1_growth_19 : decode cX1_growth 19 = .ok (.iconst 2, 1) := by decide +kernel
theorem dX1_growth_20 : decode cX1_growth 20 = .ok (.goto 4, 3) := by decide +kernel
theorem dX1_growth_23 : decode cX1_growth 23 = .ok (.iconst 1, 1) := by decide +kernel
theorem dX1_growth_24 : decode cX1_growth 24 = .ok (.ireturn, 1) := by decide +kernel
theorem dX1_growth_25 : decode cX1_growth 25 = .ok (.iconst 0, 1) := by decide +kernel
theorem dX1_growth_26 : decode cX1_growth 26 = .ok (.bipush 9, 2) := by decide +kernel
theorem dX1_growth_28 : decode cX1_growth 28 = .ok (.aload_n 0, 1) := by decide +kernel
theorem dX1_growth_29 : decode cX1_growth 29 = .ok (.aload_n 0, 1) := by decide +kernel
theorem dX1_growth_30 : decode cX1_growth 30 = .ok (.getfield 24, 3) := by decide +kernel
theorem dX1_growth_33 : decode cX1_growth 33 = .ok (.aload_n 0, 1) := by decide +kernel
theorem dX1_growth_34 : decode cX1_growth 34 = .ok (.getfield 27, 3) := by decide +kernel
theorem dX1_growth_37 : decode cX1_growth 37 = .ok (.invokevirtual 58, 3) := by decide +kernel
theorem dX1_growth_40 : decode cX1_growth 40 = .ok (.invokestatic 62, 3) := by decide +kernel
theorem dX1_growth_43 : decode cX1_growth 43 = .ok (.invokestatic 67, 3) := by decide +kernel
theorem dX1_growth_46 : decode cX1_growth 46 = .ok (.ireturn, 1) := by decide +kernel
def g_X1_growth (h : zH) (t0 : Nat) : Option (Int32 × zH) := if (h.1 t0 8) = (h.1 t0 9) then (if (h.1 t0 4) ≤ 4 then (some (1, h)) else (some (2, h))) else ((g_X1_worth h t0 (h.1 t0 8) (h.1 t0 9)).bind fun v_2 => some (if 0 < (if v_2.1 < 9 then v_2.1 else 9) then (if v_2.1 < 9 then v_2.1 else 9) else 0, v_2.2))
set_option maxRecDepth 100000 in
set_option maxHeartbeats 4000000 in
theorem b_X1_growth {K : zK} {G : zG} (hK : zC K G cX1_growth RX1 1 2 48 (some .int)) {h : zH} {t0 : Nat} (ht0 : zT t0 = (1, 0)) {r : Int32 × zH} (hE : zE K G (some (.int r.1)) r.2) (hg : g_X1_growth h t0 = some r) : zW K G 1 0 [(0, .ref (G.2.2.2 t0))] [] h := by
  rw [g_X1_growth] at hg
  refine z_aload_n (pc := 0) hK 0 dX1_growth_0 rfl (z_getI (pc := 1) hK f_X1_24_1 ht0 dX1_growth_1 (z_aload_n (pc := 4) hK 0 dX1_growth_4 rfl (z_getI (pc := 5) hK f_X1_27_1 ht0 dX1_growth_5 (z_icmp_ne (pc := 8) hK 25 dX1_growth_8 (by decide) (fun c_1 => ?_) (fun c_1 => ?_)))))
  · rw [if_neg c_1] at hg
    obtain ⟨v_2, qv_2, hg⟩ := zbind_some hg
    exact z_iconst (pc := 25) hK dX1_growth_25 zc_i0 (z_bipush (pc := 26) hK dX1_growth_26 zc_b9 (z_aload_n (pc := 28) hK 0 dX1_growth_28 rfl (z_aload_n (pc := 29) hK 0 dX1_growth_29 rfl (z_getI (pc := 30) hK f_X1_24_1 ht0 dX1_growth_30 (z_aload_n (pc := 33) hK 0 dX1_growth_33 rfl (z_getI (pc := 34) hK f_X1_27_1 ht0 dX1_growth_34 (z_callVi (pc := 37) hK [.int (h.1 t0 8), .int (h.1 t0 9)] (m_X1_worth (zC_D hK) ht0 qv_2) sv_X1_worth q_957 ht0 rfl [.int 9, .int 0] rfl (Nat.le_of_ble_eq_true rfl) ⟨by decide, by decide⟩ dX1_growth_37 (z_mmin (pc := 40) hK q_976 zw_min ⟨by decide, Nat.le_of_ble_eq_true rfl⟩ dX1_growth_40 (z_mmax (pc := 43) hK q_977 zw_max ⟨by decide, Nat.le_of_ble_eq_true rfl⟩ dX1_growth_43 (z_iretE (pc := 46) hK hE hg dX1_growth_46))))))))))
  · rw [if_pos c_1] at hg
    refine z_aload_n (pc := 11) hK 0 dX1_growth_11 rfl (z_getI (pc := 12) hK f_X1_49_1 ht0 dX1_growth_12 (z_iconst (pc := 15) hK dX1_growth_15 zc_i4 (z_icmp_le (pc := 16) hK 23 dX1_growth_16 (by decide) (fun c_3 => ?_) (fun c_3 => ?_))))
    · rw [if_pos c_3] at hg
      exact z_iconst (pc := 23) hK dX1_growth_23 zc_i1 (z_iretE (pc := 24) hK hE hg dX1_growth_24)
    · rw [if_neg c_3] at hg
      exact z_iconst (pc := 19) hK dX1_growth_19 zc_i2 (z_goto (pc := 20) hK 24 dX1_growth_20 (by decide) (z_iretE (pc := 24) hK hE hg dX1_growth_24))
theorem m_X1_growth {l : Launch} {G : zG} (hG : zD G) {h : zH} {t0 : Nat} (ht0 : zT t0 = (1, 0)) {r : Int32 × zH} (hg : g_X1_growth h t0 = some r) : zM l G yX1_growth cX1_growth 1 (some .int) 2 48 [.ref (G.2.2.2 t0)] h (some (.int r.1)) r.2 :=
  zM_of hG pn_X1 (Nat.le_of_ble_eq_true rfl) (fun K _ hK hE => b_X1_growth hK ht0 hE hg)
