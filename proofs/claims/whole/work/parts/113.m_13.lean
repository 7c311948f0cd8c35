theorem dX12_shifts_0 : decode cX12_shifts 0 = .ok (.iconst 0, 1) := by decide +kernel
theorem dX12_shifts_1 : decode cX12_shifts 1 = .ok (.istore_n 2, 1) := by decide +kernel
theorem dX12_shifts_2 : decode cX12_shifts 2 = .ok (.iload_n 2, 1) := by decide +kernel
theorem dX12_shifts_3 : decode cX12_shifts 3 = .ok (.iload_n 1, 1) := by decide +kernel
theorem dX12_shifts_4 : decode cX12_shifts 4 = .ok (.if_icmp .ge 17, 3) := by decide +kernel
theorem dX12_shifts_7 : decode cX12_shifts 7 = .ok (.aload_n 0, 1) := by decide +kernel
theorem dX12_shifts_8 : decode cX12_shifts 8 = .ok (.iload_n 2, 1) := by decide +kernel
theorem dX12_shifts_9 : decode cX12_shifts 9 = .ok (.aload_n 0, 1) := by decide +kernel
theorem dX12_shifts_10 : decode cX12_shifts 10 = .ok (.iload_n 1, 1) := by decide +kernel
theorem dX12_shifts_11 : decode cX12_shifts 11 = .ok (.iload_n 2, 1) := by decide +kernel
theorem dX12_shifts_12 : decode cX12_shifts 12 = .ok (.iadd, 1) := by decide +kernel
theorem dX12_shifts_13 : decode cX12_shifts 13 = .ok (.iaload, 1) := by decide +kernel
theorem dX12_shifts_14 : decode cX12_shifts 14 = .ok (.iastore, 1) := by decide +kernel
theorem dX12_shifts_15 : decode cX12_shifts 15 = .ok (.iinc 2 1, 3) := by decide +kernel
theorem dX12_shifts_18 : decode cX12_shifts 18 = .ok (.goto (-16), 3) := by decide +kernel
theorem dX12_shifts_21 : decode cX12_shifts 21 = .ok (.return_, 1) := by decide +kernel
def g_X12_shifts_2 (t0 : Nat) (n0 : Nat)  : Nat → Int32 → Int32 → zH → Option zH
  | 0, _, _, _ => none
  | n + 1, x1, x2, h => if x1 ≤ x2 then (some h) else (zgu (zin (x1 + x2) n0) <| zgu (zin x2 n0) <| zlet (zpi h t0 (zx x2) (h.1 t0 (zx (x1 + x2)))) fun h_4 => g_X12_shifts_2 t0 n0 n x1 (x2 + 1) h_4)
def g_X12_shifts (h : zH) (t0 : Nat) (n0 : Nat) (x1 : Int32) : Option zH := g_X12_shifts_2 t0 n0 zfu x1 0 h
set_option maxRecDepth 100000 in
set_option maxHeartbeats 4000000 in
theorem b_X12_shifts_2 {K : zK} {G : zG} (hK : zC K G cX12_shifts RX12 3 0 0 none) {t0 n0 : Nat} (ht0 : zT t0 = (20, n0)) {r : zH} (hE : zE K G (none) r) : ∀ (n : Nat) (x1 : Int32) (x2 : Int32) (h : zH), g_X12_shifts_2 t0 n0 n x1 x2 h = some r → zW K G 3 2 [(0, .ref (G.2.2.2 t0)), (1, .int x1), (2, .int x2)] [] h := by
  intro n
  induction n with
  | zero => intro x1 x2 h hg; exact nomatch (show none = some r from hg)
  | succ n ih =>
    intro x1 x2 h hg
    rw [g_X12_shifts_2] at hg
    refine z_iload_n (pc := 2) hK 2 dX12_shifts_2 rfl (z_iload_n (pc := 3) hK 1 dX12_shifts_3 rfl (z_icmp_ge (pc := 4) hK 21 dX12_shifts_4 (by decide) (fun c_1 => ?_) (fun c_1 => ?_)))
    · rw [if_pos c_1] at hg
      exact z_vretE (pc := 21) hK hE hg dX12_shifts_21
    · rw [if_neg c_1] at hg
      obtain ⟨c_2, hg⟩ := zgu_some hg
      obtain ⟨c_3, hg⟩ := zgu_some hg
      obtain ⟨h_4, eh_4, hg⟩ := zlet_some hg
      exact z_aload_n (pc := 7) hK 0 dX12_shifts_7 rfl (z_iload_n (pc := 8) hK 2 dX12_shifts_8 rfl (z_aload_n (pc := 9) hK 0 dX12_shifts_9 rfl (z_iload_n (pc := 10) hK 1 dX12_shifts_10 rfl (z_iload_n (pc := 11) hK 2 dX12_shifts_11 rfl (z_iadd (pc := 12) hK dX12_shifts_12 (z_iald (pc := 13) hK ht0 c_2 dX12_shifts_13 (z_iast (pc := 14) hK ht0 c_3 dX12_shifts_14 (z_nameH eh_4 (z_iinc (pc := 15) hK 2 (lv' := [(2, .int (x2 + 1)), (0, .ref (G.2.2.2 t0)), (1, .int x1)]) dX12_shifts_15 rfl (zc_n1 _) (by decide) rfl (z_goto (pc := 18) hK 2 dX12_shifts_18 (by decide) (zsub (lv' := [(0, .ref (G.2.2.2 t0)), (1, .int x1), (2, .int (x2 + 1))]) [1, 2, 0] rfl (ih x1 (x2 + 1) h_4 hg))))))))))))
set_option maxRecDepth 100000 in
set_option maxHeartbeats 4000000 in
theorem b_X12_shifts {K : zK} {G : zG} (hK : zC K G cX12_shifts RX12 3 0 0 none) {h : zH} {t0 : Nat} {n0 : Nat} {x1 : Int32} (ht0 : zT t0 = (20, n0)) {r : zH} (hE : zE K G (none) r) (hg : g_X12_shifts h t0 n0 x1 = some r) : zW K G 3 0 [(0, .ref (G.2.2.2 t0)), (1, .int x1)] [] h := by
  rw [g_X12_shifts] at hg
  exact z_iconst (pc := 0) hK dX12_shifts_0 zc_i0 (z_istore_n (pc := 1) hK (lv' := [(2, .int 0), (0, .ref (G.2.2.2 t0)), (1, .int x1)]) dX12_shifts_1 (by decide) rfl (zsub (lv' := [(0, .ref (G.2.2.2 t0)), (1, .int x1), (2, .int 0)]) [1, 2, 0] rfl (b_X12_shifts_2 hK ht0 hE zfu x1 0 h hg)))
theorem m_X12_shifts {l : Launch} {G : zG} (hG : zD G) {h : zH} {t0 : Nat} {n0 : Nat} {x1 : Int32} (ht0 : zT t0 = (20, n0)) {r : zH} (hg : g_X12_shifts h t0 n0 x1 = some r) : zM l G yX12_shifts cX12_shifts 3 none 0 0 [.ref (G.2.2.2 t0), .int x1] h (none) r :=
  zM_of hG pn_X12 (Nat.le_of_ble_eq_true rfl) (fun K _ hK hE => b_X12_shifts hK ht0 hE hg)
theorem dX12_lays_0 : decode cX12_lays 0 = .ok (.aload_n 0, 1) := by decide +kernel
theorem dX12_lays_1 : decode cX12_lays 1 = .ok (.getfield 13, 3) := by decide +kernel
theorem dX12_lays_4 : decode cX12_lays 4 = .ok (.iconst 4, 1) := by decide +kernel
theorem dX12_lays_5 : decode cX12_lays 5 = .ok (.invokestatic 324, 3) := by decide +kernel
theorem dX12_lays_8 : decode cX12_lays 8 = .ok (.iconst 0, 1) := by decide +kernel
theorem dX12_lays_9 : decode cX12_lays 9 = .ok (.istore_n 1, 1) := by decide +kernel
theorem dX12_lays_10 : decode cX12_lays 10 = .ok (.iload_n 1, 1) := by decide +kernel
theorem dX12_lays_11 : decode cX12_lays 11 = .ok (.bipush 7, 2) := by decide +kernel
theorem dX12_lays_13 : decode cX12_lays 13 = .ok (.if_icmp .ge 24, 3) := by decide +kernel
theorem dX12_lays_16 : decode cX12_lays 16 = .ok (.aload_n 0, 1) := by decide +kernel
theorem dX12_lays_17 : decode cX12_lays 17 = .ok (.getfield 16, 3) := by decide +kernel
theorem dX12_lays_20 : decode cX12_lays 20 = .ok (.iload_n 1, 1) := by decide +kernel
theorem dX12_lays_21 : decode cX12_lays 21 = .ok (.aload_n 0, 1) := by decide +kernel
theorem dX12_lays_22 : decode cX12_lays 22 = .ok (.getfield 16, 3) := by decide +kernel
theorem dX12_lays_25 : decode cX12_lays 25 = .ok (.bipush 7, 2) := by decide +kernel
theorem dX12_lays_27 : decode cX12_lays 27 = .ok (.iload_n 1, 1) := by decide +kernel
theorem dX12_lays_28 : decode cX12_lays 28 = .ok (.iadd, 1) := by decide +kernel
theorem dX12_lays_29 : decode cX12_lays 29 = .ok (.laload, 1) := by decide +kernel
theorem dX12_lays_30 : decode cX12_lays 30 = .ok (.lastore, 1) := by decide +kernel
theorem dX12_lays_31 : decode cX12_lays 31 = .ok (.iinc 1 1, 3) := by decide +kernel
theorem dX12_lays_34 : decode cX12_lays 34 = .ok (.goto (-24), 3) := by decide +kernel
theorem dX12_lays_37 : decode cX12_lays 37 = .ok (.aload_n 0, 1) := by decide +kernel
theorem dX12_lays_38 : decode cX12_lays 38 = .ok (.getfield 20, 3) := by decide +kernel
theorem dX12_lays_41 : decode cX12_lays 41 = .ok (.bipush 7, 2) := by decide +kernel
theorem dX12_lays_43 : decode cX12_lays 43 = .ok (.invokestatic 324, 3) := by decide +kernel
theorem dX12_lays_46 : decode cX12_lays 46 = .ok (.aload_n 0, 1) := by decide +kernel
theorem dX12_lays_47 : decode cX12_lays 47 = .ok (.getfield 23, 3) := by decide +kernel
theorem dX12_lays_50 : decode cX12_lays 50 = .ok (.bipush 7, 2) := by decide +kernel
theorem dX12_lays_52 : decode cX12_lays 52 = .ok (.invokestatic 324, 3) := by decide +kernel
theorem dX12_lays_55 : decode cX12_lays 55 = .ok (.aload_n 0, 1) := by decide +kernel
theorem dX12_lays_56 : decode cX12_lays 56 = .ok (.getfield 26, 3) := by decide +kernel
theorem dX12_lays_59 : decode cX12_lays 59 = .ok (.bipush 7, 2) := by decide +kernel
theorem dX12_lays_61 : decode cX12_lays 61 = .ok (.invokestatic 324, 3) := by decide +kernel
theorem dX12_lays_64 : decode cX12_lays 64 = .ok (.aload_n 0, 1) := by decide +kernel
theorem dX12_lays_65 : decode cX12_lays 65 = .ok (.getfield 29, 3) := by decide +kernel
theorem dX12_lays_68 : decode cX12_lays 68 = .ok (.bipush 7, 2) := by decide +kernel
theorem dX12_lays_70 : decode cX12_lays 70 = .ok (.invokestatic 324, 3) := by decide +kernel
theorem dX12_lays_73 : decode cX12_lays 73 = .ok (.aload_n 0, 1) := by decide +kernel
theorem dX12_lays_74 : decode cX12_lays 74 = .ok (.getfield 32, 3) := by decide +kernel
theorem dX12_lays_77 : decode cX12_lays 77 = .ok (.bipush 49, 2) := by decide +kernel
theorem dX12_lays_79 : decode cX12_lays 79 = .ok (.invokestatic 324, 3) := by decide +kernel
theorem dX12_lays_82 : decode cX12_lays 82 = .ok (.aload_n 0, 1) := by decide +kernel
theorem dX12_lays_83 : decode cX12_lays 83 = .ok (.getfield 45, 3) := by decide +kernel
theorem dX12_lays_86 : decode cX12_lays 86 = .ok (.sipush 1000, 3) := by decide +kernel
theorem dX12_lays_89 : decode cX12_lays 89 = .ok (.invokestatic 324, 3) := by decide +kernel
theorem dX12_lays_92 : decode cX12_lays 92 = .ok (.iconst 0, 1) := by decide +kernel
theorem dX12_lays_93 : decode cX12_lays 93 = .ok (.istore_n 1, 1) := by decide +kernel
theorem dX12_lays_94 : decode cX12_lays 94 = .ok (.iload_n 1, 1) := by decide +kernel
theorem dX12_lays_95 : decode cX12_lays 95 = .ok (.iconst 2, 1) := by decide +kernel
theorem dX12_lays_96 : decode cX12_lays 96 = .ok (.if_icmp .ge 45, 3) := by decide +kernel
theorem dX12_lays_99 : decode cX12_lays 99 = .ok (.aload_n 0, 1) := by decide +kernel
theorem dX12_lays_100 : decode cX12_lays 100 = .ok (.getfield 39, 3) := by decide +kernel
theorem dX12_lays_103 : decode cX12_lays 103 = .ok (.iload_n 1, 1) := by decide +kernel
theorem dX12_lays_104 : decode cX12_lays 104 = .ok (.aload_n 0, 1) := by decide +kernel
theorem dX12_lays_105 : decode cX12_lays 105 = .ok (.getfield 39, 3) := by decide +kernel
theorem dX12_lays_108 : decode cX12_lays 108 = .ok (.iconst 2, 1) := by decide +kernel
theorem dX12_lays_109 : decode cX12_lays 109 = .ok (.iload_n 1, 1) := by decide +kernel
theorem dX12_lays_110 : decode cX12_lays 110 = .ok (.iadd, 1) := by decide +kernel
theorem dX12_lays_111 : decode cX12_lays 111 = .ok (.iaload, 1) := by decide +kernel
theorem dX12_lays_112 : decode cX12_lays 112 = .ok (.sipush 1000, 3) := by decide +kernel
theorem dX12_lays_115 : decode cX12_lays 115 = .ok (.isub, 1) := by decide +kernel
theorem dX12_lays_116 : decode cX12_lays 116 = .ok (.iastore, 1) := by decide +kernel
theorem dX12_lays_117 : decode cX12_lays 117 = .ok (.aload_n 0, 1) := by decide +kernel
theorem dX12_lays_118 : decode cX12_lays 118 = .ok (.getfield 42, 3) := by decide +kernel
theorem dX12_lays_121 : decode cX12_lays 121 = .ok (.iload_n 1, 1) := by decide +kernel
theorem dX12_lays_122 : decode cX12_lays 122 = .ok (.aload_n 0, 1) := by decide +kernel
theorem dX12_lays_123 : decode cX12_lays 123 = .ok (.getfield 42, 3) := by decide +kernel
theorem dX12_lays_126 : decode cX12_lays 126 = .ok (.iconst 2, 1) := by decide +kernel
theorem dX12_lays_127 : decode cX12_lays 127 = .ok (.iload_n 1, 1) := by decide +kernel
theorem dX12_lays_128 : decode cX12_lays 128 = .ok (.iadd, 1) := by decide +kernel
theorem dX12_lays_129 : decode cX12_lays 129 = .ok (.iaload, 1) := by decide +kernel
theorem dX12_lays_130 : decode cX12_lays 130 = .ok (.sipush 1000, 3) := by decide +kernel
theorem dX12_lays_133 : decode cX12_lays 133 = .ok (.isub, 1) := by decide +kernel
theorem dX12_lays_134 : decode cX12_lays 134 = .ok (.iastore, 1) := by decide +kernel
theorem dX12_lays_135 : decode cX12_lays 135 = .ok (.iinc 1 1, 3) := by decide +kernel
theorem dX12_lays_138 : decode cX12_lays 138 = .ok (.goto (-44), 3) := by decide +kernel
theorem dX12_lays_141 : decode cX12_lays 141 = .ok (.return_, 1) := by decide +kernel
def g_X12_lays_94 (t0 : Nat)  : Nat → Int32 → zH → Option zH
  | 0, _, _ => none
  | n + 1, x1, h => if 2 ≤ x1 then (some h) else (zgu (zin (2 + x1) 4) <| zgu (zin x1 4) <| zlet (zpi h (zR t0 18) (zx x1) ((h.1 (zR t0 18) (zx (2 + x1))) - 1000)) fun h_15 => zgu (zin (2 + x1) 4) <| zgu (zin x1 4) <| zlet (zpi h_15 (zR t0 19) (zx x1) ((h_15.1 (zR t0 19) (zx (2 + x1))) - 1000)) fun h_18 => g_X12_lays_94 t0 n (x1 + 1) h_18)
def g_X12_lays_10 (t0 : Nat)  : Nat → Int32 → zH → Option zH
  | 0, _, _ => none
  | n + 1, x1, h => if 7 ≤ x1 then ((g_X12_shifts h (zR t0 12) 14 7).bind fun v_3 => (g_X12_shifts v_3 (zR t0 13) 14 7).bind fun v_4 => (g_X12_shifts v_4 (zR t0 14) 14 7).bind fun v_5 => (g_X12_shifts v_5 (zR t0 15) 14 7).bind fun v_6 => (g_X12_shifts v_6 (zR t0 16) 98 49).bind fun v_7 => (g_X12_shifts v_7 (zR t0 20) 2000 1000).bind fun v_8 => g_X12_lays_94 t0 zfu 0 v_8) else (zgu (zin (7 + x1) 14) <| zgu (zin x1 14) <| zlet (zpl h (zR t0 11) (zx x1) (h.2 (zR t0 11) (zx (7 + x1)))) fun h_11 => g_X12_lays_10 t0 n (x1 + 1) h_11)
def g_X12_lays (h : zH) (t0 : Nat) : Option zH := (g_X12_shifts h (zR t0 10) 8 4).bind fun v_1 => g_X12_lays_10 t0 zfu 0 v_1
set_option maxRecDepth 100000 in
set_option maxHeartbeats 4000000 in
theorem b_X12_lays_94 {K : zK} {G : zG} (hK : zC K G cX12_lays RX12 2 1 22 none) {t0 : Nat} (ht0 : zT t0 = (11, 0)) {r : zH} (hE : zE K G (none) r) : ∀ (n : Nat) (x1 : Int32) (h : zH), g_X12_lays_94 t0 n x1 h = some r → zW K G 2 94 [(0, .ref (G.2.2.2 t0)), (1, .int x1)] [] h := by
  intro n
  induction n with
  | zero => intro x1 h hg; exact nomatch (show none = some r from hg)
  | succ n ih =>
    intro x1 h hg
    rw [g_X12_lays_94] at hg
    refine z_iload_n (pc := 94) hK 1 dX12_lays_94 rfl (z_iconst (pc := 95) hK dX12_lays_95 zc_i2 (z_icmp_ge (pc := 96) hK 141 dX12_lays_96 (by decide) (fun c_12 => ?_) (fun c_12 => ?_)))
    · rw [if_pos c_12] at hg
      exact z_vretE (pc := 141) hK hE hg dX12_lays_141
    · rw [if_neg c_12] at hg
      obtain ⟨c_13, hg⟩ := zgu_some hg
      obtain ⟨c_14, hg⟩ := zgu_some hg
      obtain ⟨h_15, eh_15, hg⟩ := zlet_some hg
      obtain ⟨c_16, hg⟩ := zgu_some hg
      obtain ⟨c_17, hg⟩ := zgu_some hg
      obtain ⟨h_18, eh_18, hg⟩ := zlet_some hg
      exact z_aload_n (pc := 99) hK 0 dX12_lays_99 rfl (z_getR (pc := 100) hK f_X12_39_11 ht0 dX12_lays_100 (z_iload_n (pc := 103) hK 1 dX12_lays_103 rfl (z_aload_n (pc := 104) hK 0 dX12_lays_104 rfl (z_getR (pc := 105) hK f_X12_39_11 ht0 dX12_lays_105 (z_iconst (pc := 108) hK dX12_lays_108 zc_i2 (z_iload_n (pc := 109) hK 1 dX12_lays_109 rfl (z_iadd (pc := 110) hK dX12_lays_110 (z_iald (pc := 111) hK (zt_11_18 ht0) c_13 dX12_lays_111 (z_sipush (pc := 112) hK dX12_lays_112 zc_s1000 (z_isub (pc := 115) hK dX12_lays_115 (z_iast (pc := 116) hK (zt_11_18 ht0) c_14 dX12_lays_116 (z_nameH eh_15 (z_aload_n (pc := 117) hK 0 dX12_lays_117 rfl (z_getR (pc := 118) hK f_X12_42_11 ht0 dX12_lays_118 (z_iload_n (pc := 121) hK 1 dX12_lays_121 rfl (z_aload_n (pc := 122) hK 0 dX12_lays_122 rfl (z_getR (pc := 123) hK f_X12_42_11 ht0 dX12_lays_123 (z_iconst (pc := 126) hK dX12_lays_126 zc_i2 (z_iload_n (pc := 127) hK 1 dX12_lays_127 rfl (z_iadd (pc := 128) hK dX12_lays_128 (z_iald (pc := 129) hK (zt_11_19 ht0) c_16 dX12_lays_129 (z_sipush (pc := 130) hK dX12_lays_130 zc_s1000 (z_isub (pc := 133) hK dX12_lays_133 (z_iast (pc := 134) hK (zt_11_19 ht0) c_17 dX12_lays_134 (z_nameH eh_18 (z_iinc (pc := 135) hK 1 (lv' := [(1, .int (x1 + 1)), (0, .ref (G.2.2.2 t0))]) dX12_lays_135 rfl (zc_n1 _) (by decide) rfl (z_goto (pc := 138) hK 94 dX12_lays_138 (by decide) (zsub (lv' := [(0, .ref (G.2.2.2 t0)), (1, .int (x1 + 1))]) [1, 0] rfl (ih (x1 + 1) h_18 hg)))))))))))))))))))))))))))))
set_option maxRecDepth 100000 in
set_option maxHeartbeats 4000000 in
theorem b_X12_lays_10 {K : zK} {G : zG} (hK : zC K G cX12_lays RX12 2 1 22 none) {t0 : Nat} (ht0 : zT t0 = (11, 0)) {r : zH} (hE : zE K G (none) r) : ∀ (n : Nat) (x1 : Int32) (h : zH), g_X12_lays_10 t0 n x1 h = some r → zW K G 2 10 [(0, .ref (G.2.2.2 t0)), (1, .int x1)] [] h := by
  intro n
  induction n with
  | zero => intro x1 h hg; exact nomatch (show none = some r from hg)
  | succ n ih =>
    intro x1 h hg
    rw [g_X12_lays_10] at hg
    refine z_iload_n (pc := 10) hK 1 dX12_lays_10 rfl (z_bipush (pc := 11) hK dX12_lays_11 zc_b7 (z_icmp_ge (pc := 13) hK 37 dX12_lays_13 (by decide) (fun c_2 => ?_) (fun c_2 => ?_)))
    · rw [if_pos c_2] at hg
      obtain ⟨v_3, qv_3, hg⟩ := zbind_some hg
      obtain ⟨v_4, qv_4, hg⟩ := zbind_some hg
      obtain ⟨v_5, qv_5, hg⟩ := zbind_some hg
      obtain ⟨v_6, qv_6, hg⟩ := zbind_some hg
      obtain ⟨v_7, qv_7, hg⟩ := zbind_some hg
      obtain ⟨v_8, qv_8, hg⟩ := zbind_some hg
      exact z_aload_n (pc := 37) hK 0 dX12_lays_37 rfl (z_getR (pc := 38) hK f_X12_20_11 ht0 dX12_lays_38 (z_bipush (pc := 41) hK dX12_lays_41 zc_b7 (z_callSv (pc := 43) hK [.ref (G.2.2.2 (zR t0 12)), .int 7] (m_X12_shifts (zC_D hK) (zt_11_12 ht0) qv_3) ss_X12_shifts q_1601 rfl [] rfl (Nat.le_of_ble_eq_true rfl) ⟨by decide, by decide⟩ dX12_lays_43 (z_aload_n (pc := 46) hK 0 dX12_lays_46 rfl (z_getR (pc := 47) hK f_X12_23_11 ht0 dX12_lays_47 (z_bipush (pc := 50) hK dX12_lays_50 zc_b7 (z_callSv (pc := 52) hK [.ref (G.2.2.2 (zR t0 13)), .int 7] (m_X12_shifts (zC_D hK) (zt_11_13 ht0) qv_4) ss_X12_shifts q_1601 rfl [] rfl (Nat.le_of_ble_eq_true rfl) ⟨by decide, by decide⟩ dX12_lays_52 (z_aload_n (pc := 55) hK 0 dX12_lays_55 rfl (z_getR (pc := 56) hK f_X12_26_11 ht0 dX12_lays_56 (z_bipush (pc := 59) hK dX12_lays_59 zc_b7 (z_callSv (pc := 61) hK [.ref (G.2.2.2 (zR t0 14)), .int 7] (m_X12_shifts (zC_D hK) (zt_11_14 ht0) qv_5) ss_X12_shifts q_1601 rfl [] rfl (Nat.le_of_ble_eq_true rfl) ⟨by decide, by decide⟩ dX12_lays_61 (z_aload_n (pc := 64) hK 0 dX12_lays_64 rfl (z_getR (pc := 65) hK f_X12_29_11 ht0 dX12_lays_65 (z_bipush (pc := 68) hK dX12_lays_68 zc_b7 (z_callSv (pc := 70) hK [.ref (G.2.2.2 (zR t0 15)), .int 7] (m_X12_shifts (zC_D hK) (zt_11_15 ht0) qv_6) ss_X12_shifts q_1601 rfl [] rfl (Nat.le_of_ble_eq_true rfl) ⟨by decide, by decide⟩ dX12_lays_70 (z_aload_n (pc := 73) hK 0 dX12_lays_73 rfl (z_getR (pc := 74) hK f_X12_32_11 ht0 dX12_lays_74 (z_bipush (pc := 77) hK dX12_lays_77 zc_b49 (z_callSv (pc := 79) hK [.ref (G.2.2.2 (zR t0 16)), .int 49] (m_X12_shifts (zC_D hK) (zt_11_16 ht0) qv_7) ss_X12_shifts q_1601 rfl [] rfl (Nat.le_of_ble_eq_true rfl) ⟨by decide, by decide⟩ dX12_lays_79 (z_aload_n (pc := 82) hK 0 dX12_lays_82 rfl (z_getR (pc := 83) hK f_X12_45_11 ht0 dX12_lays_83 (z_sipush (pc := 86) hK dX12_lays_86 zc_s1000 (z_callSv (pc := 89) hK [.ref (G.2.2.2 (zR t0 20)), .int 1000] (m_X12_shifts (zC_D hK) (zt_11_20 ht0) qv_8) ss_X12_shifts q_1601 rfl [] rfl (Nat.le_of_ble_eq_true rfl) ⟨by decide, by decide⟩ dX12_lays_89 (z_iconst (pc := 92) hK dX12_lays_92 zc_i0 (z_istore_n (pc := 93) hK (lv' := [(1, .int 0), (0, .ref (G.2.2.2 t0))]) dX12_lays_93 (by decide) rfl (zsub (lv' := [(0, .ref (G.2.2.2 t0)), (1, .int 0)]) [1, 0] rfl (b_X12_lays_94 hK ht0 hE zfu 0 v_8 hg)))))))))))))))))))))))))))
    · rw [if_neg c_2] at hg
      obtain ⟨c_9, hg⟩ := zgu_some hg
      obtain ⟨c_10, hg⟩ := zgu_some hg
      obtain ⟨h_11, eh_11, hg⟩ := zlet_some hg
      exact z_aload_n (pc := 16) hK 0 dX12_lays_16 rfl (z_getR (pc := 17) hK f_X12_16_11 ht0 dX12_lays_17 (z_iload_n (pc := 20) hK 1 dX12_lays_20 rfl (z_aload_n (pc := 21) hK 0 dX12_lays_21 rfl (z_getR (pc := 22) hK f_X12_16_11 ht0 dX12_lays_22 (z_bipush (pc := 25) hK dX12_lays_25 zc_b7 (z_iload_n (pc := 27) hK 1 dX12_lays_27 rfl (z_iadd (pc := 28) hK dX12_lays_28 (z_lald (pc := 29) hK (zt_11_11 ht0) c_9 dX12_lays_29 (z_last (pc := 30) hK (zt_11_11 ht0) c_10 dX12_lays_30 (z_nameH eh_11 (z_iinc (pc := 31) hK 1 (lv' := [(1, .int (x1 + 1)), (0, .ref (G.2.2.2 t0))]) dX12_lays_31 rfl (zc_n1 _) (by decide) rfl (z_goto (pc := 34) hK 10 dX12_lays_34 (by decide) (zsub (lv' := [(0, .ref (G.2.2.2 t0)), (1, .int (x1 + 1))]) [1, 0] rfl (ih (x1 + 1) h_11 hg))))))))))))))
set_option maxRecDepth 100000 in
set_option maxHeartbeats 4000000 in
theorem b_X12_lays {K : zK} {G : zG} (hK : zC K G cX12_lays RX12 2 1 22 none) {h : zH} {t0 : Nat} (ht0 : zT t0 = (11, 0)) {r : zH} (hE : zE K G (none) r) (hg : g_X12_lays h t0 = some r) : zW K G 2 0 [(0, .ref (G.2.2.2 t0))] [] h := by
  rw [g_X12_lays] at hg
  obtain ⟨v_1, qv_1, hg⟩ := zbind_some hg
  exact z_aload_n (pc := 0) hK 0 dX12_lays_0 rfl (z_getR (pc := 1) hK f_X12_13_11 ht0 dX12_lays_1 (z_iconst (pc := 4) hK dX12_lays_4 zc_i4 (z_callSv (pc := 5) hK [.ref (G.2.2.2 (zR t0 10)), .int 4] (m_X12_shifts (zC_D hK) (zt_11_10 ht0) qv_1) ss_X12_shifts q_1601 rfl [] rfl (Nat.le_of_ble_eq_true rfl) ⟨by decide, by decide⟩ dX12_lays_5 (z_iconst (pc := 8) hK dX12_lays_8 zc_i0 (z_istore_n (pc := 9) hK (lv' := [(1, .int 0), (0, .ref (G.2.2.2 t0))]) dX12_lays_9 (by decide) rfl (zsub (lv' := [(0, .ref (G.2.2.2 t0)), (1, .int 0)]) [1, 0] rfl (b_X12_lays_10 hK ht0 hE zfu 0 v_1 hg)))))))
theorem m_X12_lays {l : Launch} {G : zG} (hG : zD G) {h : zH} {t0 : Nat} (ht0 : zT t0 = (11, 0)) {r : zH} (hg : g_X12_lays h t0 = some r) : zM l G yX12_lays cX12_lays 2 none 1 22 [.ref (G.2.2.2 t0)] h (none) r :=
  zM_of hG pn_X12 (Nat.le_of_ble_eq_true rfl) (fun K _ hK hE => b_X12_lays hK ht0 hE hg)
theorem dX12_copies_0 : decode cX12_copies 0 = .ok (.iconst 0, 1) := by decide +kernel
theorem dX12_copies_1 : decode cX12_copies 1 = .ok (.istore 4, 2) := by decide +kernel
theorem dX12_copies_3 : decode cX12_copies 3 = .ok (.iload 4, 2) := by decide +kernel
theorem dX12_copies_5 : decode cX12_copies 5 = .ok (.bipush 107, 2) := by decide +kernel
theorem dX12_copies_7 : decode cX12_copies 7 = .ok (.if_icmp .ge 21, 3) := by decide +kernel
theorem dX12_copies_10 : decode cX12_copies 10 = .ok (.aload_n 2, 1) := by decide +kernel
theorem dX12_copies_11 : decode cX12_copies 11 = .ok (.iload_n 3, 1) := by decide +kernel
theorem dX12_copies_12 : decode cX12_copies 12 = .ok (.iload 4, 2) := by decide +kernel
theorem dX12_copies_14 : decode cX12_copies 14 = .ok (.iadd, 1) := by decide +kernel
theorem dX12_copies_15 : decode cX12_copies 15 = .ok (.aload_n 0, 1) := by decide +kernel
theorem dX12_copies_16 : decode cX12_copies 16 = .ok (.iload_n 1, 1) := by decide +kernel
theorem dX12_copies_17 : decode cX12_copies 17 = .ok (.iload 4, 2) := by decide +kernel
theorem dX12_copies_19 : decode cX12_copies 19 = .ok (.iadd, 1) := by decide +kernel
theorem dX12_copies_20 : decode cX12_copies 20 = .ok (.iaload, 1) := by decide +kernel
theorem dX12_copies_21 : decode cX12_copies 21 = .ok (.iastore, 1) := by decide +kernel
theorem dX12_copies_22 : decode cX12_copies 22 = .ok (.iinc 4 1, 3) := by decide +kernel
theorem dX12_copies_25 : decode cX12_copies 25 = .ok (.goto (-22), 3) := by decide +kernel
theorem dX12_copies_28 : decode cX12_copies 28 = .ok (.return_, 1) := by decide +kernel
def g_X12_copies_3 (t0 : Nat) (n0 : Nat) (t2 : Nat) (n2 : Nat)  : Nat → Int32 → Int32 → Int32 → zH → Option zH
  | 0, _, _, _, _ => none
  | n + 1, x1, x3, x4, h => if 107 ≤ x4 then (some h) else (zgu (zin (x1 + x4) n0) <| zgu (zin (x3 + x4) n2) <| zlet (zpi h t2 (zx (x3 + x4)) (h.1 t0 (zx (x1 + x4)))) fun h_4 => g_X12_copies_3 t0 n0 t2 n2 n x1 x3 (x4 + 1) h_4)
def g_X12_copies (h : zH) (t0 : Nat) (n0 : Nat) (x1 : Int32) (t2 : Nat) (n2 : Nat) (x3 : Int32) : Option zH := g_X12_copies_3 t0 n0 t2 n2 zfu x1 x3 0 h
set_option maxRecDepth 100000 in
set_option maxHeartbeats 4000000 in
theorem b_X12_copies_3 {K : zK} {G : zG} (hK : zC K G cX12_copies RX12 5 0 0 none) {t0 n0 t2 n2 : Nat} (ht0 : zT t0 = (20, n0)) (ht2 : zT t2 = (20, n2)) {r : zH} (hE : zE K G (none) r) : ∀ (n : Nat) (x1 : Int32) (x3 : Int32) (x4 : Int32) (h : zH), g_X12_copies_3 t0 n0 t2 n2 n x1 x3 x4 h = some r → zW K G 5 3 [(0, .ref (G.2.2.2 t0)), (1, .int x1), (2, .ref (G.2.2.2 t2)), (3, .int x3), (4, .int x4)] [] h := by
  intro n
  induction n with
  | zero => intro x1 x3 x4 h hg; exact nomatch (show none = some r from hg)
  | succ n ih =>
    intro x1 x3 x4 h hg
    rw [g_X12_copies_3] at hg
    refine z_iload (pc := 3) hK 4 dX12_copies_3 rfl (z_bipush (pc := 5) hK dX12_copies_5 zc_b107 (z_icmp_ge (pc := 7) hK 28 dX12_copies_7 (by decide) (fun c_1 => ?_) (fun c_1 => ?_)))
    · rw [if_pos c_1] at hg
      exact z_vretE (pc := 28) hK hE hg dX12_copies_28
    · rw [if_neg c_1] at hg
      obtain ⟨c_2, hg⟩ := zgu_some hg
      obtain ⟨c_3, hg⟩ := zgu_some hg
      obtain ⟨h_4, eh_4, hg⟩ := zlet_some hg
      exact z_aload_n (pc := 10) hK 2 dX12_copies_10 rfl (z_iload_n (pc := 11) hK 3 dX12_copies_11 rfl (z_iload (pc := 12) hK 4 dX12_copies_12 rfl (z_iadd (pc := 14) hK dX12_copies_14 (z_aload_n (pc := 15) hK 0 dX12_copies_15 rfl (z_iload_n (pc := 16) hK 1 dX12_copies_16 rfl (z_iload (pc := 17) hK 4 dX12_copies_17 rfl (z_iadd (pc := 19) hK dX12_copies_19 (z_iald (pc := 20) hK ht0 c_2 dX12_copies_20 (z_iast (pc := 21) hK ht2 c_3 dX12_copies_21 (z_nameH eh_4 (z_iinc (pc := 22) hK 4 (lv' := [(4, .int (x4 + 1)), (0, .ref (G.2.2.2 t0)), (1, .int x1), (2, .ref (G.2.2.2 t2)), (3, .int x3)]) dX12_copies_22 rfl (zc_n1 _) (by decide) rfl (z_goto (pc := 25) hK 3 dX12_copies_25 (by decide) (zsub (lv' := [(0, .ref (G.2.2.2 t0)), (1, .int x1), (2, .ref (G.2.2.2 t2)), (3, .int x3), (4, .int (x4 + 1))]) [1, 2, 3, 4, 0] rfl (ih x1 x3 (x4 + 1) h_4 hg))))))))))))))
set_option maxRecDepth 100000 in
set_option maxHeartbeats 4000000 in
theorem b_X12_copies {K : zK} {G : zG} (hK : zC K G cX12_copies RX12 5 0 0 none) {h : zH} {t0 : Nat} {n0 : Nat} {x1 : Int32} {t2 : Nat} {n2 : Nat} {x3 : Int32} (ht0 : zT t0 = (20, n0)) (ht2 : zT t2 = (20, n2)) {r : zH} (hE : zE K G (none) r) (hg : g_X12_copies h t0 n0 x1 t2 n2 x3 = some r) : zW K G 5 0 [(0, .ref (G.2.2.2 t0)), (1, .int x1), (2, .ref (G.2.2.2 t2)), (3, .int x3)] [] h := by
  rw [g_X12_copies] at hg
  exact z_iconst (pc := 0) hK dX12_copies_0 zc_i0 (z_istore (pc := 1) hK (lv' := [(4, .int 0), (0, .ref (G.2.2.2 t0)), (1, .int x1), (2, .ref (G.2.2.2 t2)), (3, .int x3)]) dX12_copies_1 (by decide) rfl (zsub (lv' := [(0, .ref (G.2.2.2 t0)), (1, .int x1), (2, .ref (G.2.2.2 t2)), (3, .int x3), (4, .int 0)]) [1, 2, 3, 4, 0] rfl (b_X12_copies_3 hK ht0 ht2 hE zfu x1 x3 0 h hg)))
theorem m_X12_copies {l : Launch} {G : zG} (hG : zD G) {h : zH} {t0 : Nat} {n0 : Nat} {x1 : Int32} {t2 : Nat} {n2 : Nat} {x3 : Int32} (ht0 : zT t0 = (20, n0)) (ht2 : zT t2 = (20, n2)) {r : zH} (hg : g_X12_copies h t0 n0 x1 t2 n2 x3 = some r) : zM l G yX12_copies cX12_copies 5 none 0 0 [.ref (G.2.2.2 t0), .int x1, .ref (G.2.2.2 t2), .int x3] h (none) r :=
  zM_of hG pn_X12 (Nat.le_of_ble_eq_true rfl) (fun K _ hK hE => b_X12_copies hK ht0 ht2 hE hg)
theorem dX12_readsLine_0 : decode cX12_readsLine 0 = .ok (.aload_n 0, 1) := by decide +kernel
theorem dX12_readsLine_1 : decode cX12_readsLine 1 = .ok (.ldc2_w 233, 3) := by decide +kernel
theorem dX12_readsLine_4 : decode cX12_readsLine 4 = .ok (.invokevirtual 182, 3) := by decide +kernel
theorem dX12_readsLine_7 : decode cX12_readsLine 7 = .ok (.ifCond .eq 7, 3) := by decide +kernel
theorem dX12_readsLine_10 : decode cX12_readsLine 10 = .ok (.iconst 0, 1) := by decide +kernel
theorem dX12_readsLine_11 : decode cX12_readsLine 11 = .ok (.goto 60, 3) := by decide +kernel
theorem dX12_readsLine_14 : decode cX12_readsLine 14 = .ok (.aload_n 0, 1) := by decide +kernel
theorem dX12_readsLine_15 : decode cX12_readsLine 15 = .ok (.ldc2_w 235, 3) := by decide +kernel
theorem dX12_readsLine_18 : decode cX12_readsLine 18 = .ok (.invokevirtual 182, 3) := by decide +kernel
theorem dX12_readsLine_21 : decode cX12_readsLine 21 = .ok (.ifCond .eq 7, 3) := by decide +kernel
theorem dX12_readsLine_24 : decode cX12_readsLine 24 = .ok (.iconst 1, 1) := by decide +kernel
theorem dX12_readsLine_25 : decode cX12_readsLine 25 = .ok (.goto 46, 3) := by decide +kernel
theorem dX12_readsLine_28 : decode cX12_readsLine 28 = .ok (.aload_n 0, 1) := by decide +kernel
theorem dX12_readsLine_29 : decode cX12_readsLine 29 = .ok (.ldc2_w 237, 3) := by decide +kernel
theorem dX12_readsLine_32 : decode cX12_readsLine 32 = .ok (.invokevirtual 182, 3) := by decide +kernel
theorem dX12_readsLine_35 : decode cX12_readsLine 35 = .ok (.ifCond .eq 7, 3) := by decide +kernel
theorem dX12_readsLine_38 : decode cX12_readsLine 38 = .ok (.iconst 2, 1) := by decide +kernel
theorem dX12_readsLine_39 : decode cX12_readsLine 39 = .ok (.goto 32, 3) := by decide +kernel
theorem dX12_readsLine_42 : decode cX12_readsLine 42 = .ok (.aload_n 0, 1) := by decide +kernel
theorem dX12_readsLine_43 : decode cX12_readsLine 43 = .ok (.ldc2_w 239, 3) := by decide +kernel
theorem dX12_readsLine_46 : decode cX12_readsLine 46 = .ok (.invokevirtual 182, 3) := by decide +kernel
theorem dX12_readsLine_49 : decode cX12_readsLine 49 = .ok (.ifCond .eq 7, 3) := by decide +kernel
theorem dX12_readsLine_52 : decode cX12_readsLine 52 = .ok (.iconst 3, 1) := by decide +kernel
theorem dX12_readsLine_53 : decode cX12_readsLine 53 = .ok (.goto 18, 3) := by decide +kernel
theorem dX12_readsLine_56 : decode cX12_readsLine 56 = .ok (.aload_n 0, 1) := by decide +kernel
theorem dX12_readsLine_57 : decode cX12_readsLine 57 = .ok (.ldc2_w 241, 3) := by decide +kernel
theorem dX12_readsLine_60 : decode cX12_readsLine 60 = .ok (.invokevirtual 182, 3) := by decide +kernel
theorem dX12_readsLine_63 : decode cX12_readsLine 63 = .ok (.ifCond .eq 7, 3) := by decide +kernel
theorem dX12_readsLine_66 : decode cX12_readsLine 66 = .ok (.iconst 4, 1) := by decide +kernel
theorem dX12_readsLine_67 : decode cX12_readsLine 67 = .ok (.goto 4, 3) := by decide +kernel
theorem dX12_readsLine_70 : decode cX12_readsLine 70 = .ok (.iconst (-1), 1) := by decide +kernel
theorem dX12_readsLine_71 : decode cX12_readsLine 71 = .ok (.istore_n 1, 1) := by decide +kernel
theorem dX12_readsLine_72 : decode cX12_readsLine 72 = .ok (.iload_n 1, 1) := by decide +kernel
theorem dX12_readsLine_73 : decode cX12_readsLine 73 = .ok (.ifCond .ge 9, 3) := by decide +kernel
theorem dX12_readsLine_76 : decode cX12_readsLine 76 = .ok (.aload_n 0, 1) := by decide +kernel
theorem dX12_readsLine_77 : decode cX12_readsLine 77 = .ok (.iconst 1, 1) := by decide +kernel
theorem dX12_readsLine_78 : decode cX12_readsLine 78 = .ok (.invokevirtual 190, 3) := by decide +kernel
theorem dX12_readsLine_81 : decode cX12_readsLine 81 = .ok (.ireturn, 1) := by decide +kernel
theorem dX12_readsLine_82 : decode cX12_readsLine 82 = .ok (.aload_n 0, 1) := by decide +kernel
theorem dX12_readsLine_83 : decode cX12_readsLine 83 = .ok (.getfield 84, 3) := by decide +kernel
theorem dX12_readsLine_86 : decode cX12_readsLine 86 = .ok (.iconst 5, 1) := by decide +kernel
theorem dX12_readsLine_87 : decode cX12_readsLine 87 = .ok (.iaload, 1) := by decide +kernel
theorem dX12_readsLine_88 : decode cX12_readsLine 88 = .ok (.bipush 40, 2) := by decide +kernel
theorem dX12_readsLine_90 : decode cX12_readsLine 90 = .ok (.if_icmp .ne 9, 3) := by decide +kernel
theorem dX12_readsLine_93 : decode cX12_readsLine 93 = .ok (.aload_n 0, 1) := by decide +kernel
theorem dX12_readsLine_94 : decode cX12_readsLine 94 = .ok (.iconst 5, 1) := by decide +kernel
theorem dX12_readsLine_95 : decode cX12_readsLine 95 = .ok (.invokevirtual 190, 3) := by decide +kernel
theorem dX12_readsLine_98 : decode cX12_readsLine 98 = .ok (.ireturn, 1) := by decide +kernel
theorem dX12_readsLine_99 : decode cX12_readsLine 99 = .ok (.aload_n 0, 1) := by decide +kernel
theorem dX12_readsLine_100 : decode cX12_readsLine 100 = .ok (.invokevirtual 197, 3) := by decide +kernel
theorem dX12_readsLine_103 : decode cX12_readsLine 103 = .ok (.sipush 200, 3) := by decide +kernel
theorem dX12_readsLine_106 : decode cX12_readsLine 106 = .ok (.aload_n 0, 1) := by decide +kernel
theorem dX12_readsLine_107 : decode cX12_readsLine 107 = .ok (.getfield 84, 3) := by decide +kernel
theorem dX12_readsLine_110 : decode cX12_readsLine 110 = .ok (.iconst 5, 1) := by decide +kernel
theorem dX12_readsLine_111 : decode cX12_readsLine 111 = .ok (.iaload, 1) := by decide +kernel
theorem dX12_readsLine_112 : decode cX12_readsLine 112 = .ok (.iadd, 1) := by decide +kernel
theorem dX12_readsLine_113 : decode cX12_readsLine 113 = .ok (.istore_n 2, 1) := by decide +kernel
theorem dX12_readsLine_114 : decode cX12_readsLine 114 = .ok (.aload_n 0, 1) := by decide +kernel
theorem dX12_readsLine_115 : decode cX12_readsLine 115 = .ok (.getfield 87, 3) := by decide +kernel
theorem dX12_readsLine_118 : decode cX12_readsLine 118 = .ok (.iload_n 2, 1) := by decide +kernel
theorem dX12_readsLine_119 : decode cX12_readsLine 119 = .ok (.iload_n 1, 1) := by decide +kernel
theorem dX12_readsLine_120 : decode cX12_readsLine 120 = .ok (.iastore, 1) := by decide +kernel
theorem dX12_readsLine_121 : decode cX12_readsLine 121 = .ok (.iload_n 1, 1) := by decide +kernel
theorem dX12_readsLine_122 : decode cX12_readsLine 122 = .ok (.iconst 1, 1) := by decide +kernel
theorem dX12_readsLine_123 : decode cX12_readsLine 123 = .ok (.if_icmp .eq 8, 3) := by decide +kernel
theorem dX12_readsLine_126 : decode cX12_readsLine 126 = .ok (.iload_n 1, 1) := by decide +kernel
theorem dX12_readsLine_127 : decode cX12_readsLine 127 = .ok (.iconst 2, 1) := by decide +kernel
theorem dX12_readsLine_128 : decode cX12_readsLine 128 = .ok (.if_icmp .ne 40, 3) := by decide +kernel
theorem dX12_readsLine_131 : decode cX12_readsLine 131 = .ok (.aload_n 0, 1) := by decide +kernel
theorem dX12_readsLine_132 : decode cX12_readsLine 132 = .ok (.iconst 0, 1) := by decide +kernel
theorem dX12_readsLine_133 : decode cX12_readsLine 133 = .ok (.invokevirtual 290, 3) := by decide +kernel
theorem dX12_readsLine_136 : decode cX12_readsLine 136 = .ok (.ifCond .ne 5, 3) := by decide +kernel
theorem dX12_readsLine_139 : decode cX12_readsLine 139 = .ok (.iconst 0, 1) := by decide +kernel
theorem dX12_readsLine_140 : decode cX12_readsLine 140 = .ok (.ireturn, 1) := by decide +kernel
theorem dX12_readsLine_141 : decode cX12_readsLine 141 = .ok (.aload_n 0, 1) := by decide +kernel
theorem dX12_readsLine_142 : decode cX12_readsLine 142 = .ok (.getfield 90, 3) := by decide +kernel
theorem dX12_readsLine_145 : decode cX12_readsLine 145 = .ok (.iload_n 2, 1) := by decide +kernel
theorem dX12_readsLine_146 : decode cX12_readsLine 146 = .ok (.aload_n 0, 1) := by decide +kernel
theorem dX12_readsLine_147 : decode cX12_readsLine 147 = .ok (.getfield 280, 3) := by decide +kernel
theorem dX12_readsLine_150 : decode cX12_readsLine 150 = .ok (.iastore, 1) := by decide +kernel
theorem dX12_readsLine_151 : decode cX12_readsLine 151 = .ok (.aload_n 0, 1) := by decide +kernel
theorem dX12_readsLine_152 : decode cX12_readsLine 152 = .ok (.getfield 93, 3) := by decide +kernel
theorem dX12_readsLine_155 : decode cX12_readsLine 155 = .ok (.iload_n 2, 1) := by decide +kernel
theorem dX12_readsLine_156 : decode cX12_readsLine 156 = .ok (.aload_n 0, 1) := by decide +kernel
theorem dX12_readsLine_157 : decode cX12_readsLine 157 = .ok (.getfield 263, 3) := by decide +kernel
theorem dX12_readsLine_160 : decode cX12_readsLine 160 = .ok (.iastore, 1) := by decide +kernel
theorem dX12_readsLine_161 : decode cX12_readsLine 161 = .ok (.aload_n 0, 1) := by decide +kernel
theorem dX12_readsLine_162 : decode cX12_readsLine 162 = .ok (.invokevirtual 197, 3) := by decide +kernel
theorem dX12_readsLine_165 : decode cX12_readsLine 165 = .ok (.goto 32, 3) := by decide +kernel
theorem dX12_readsLine_168 : decode cX12_readsLine 168 = .ok (.iload_n 1, 1) := by decide +kernel
theorem dX12_readsLine_169 : decode cX12_readsLine 169 = .ok (.iconst 3, 1) := by decide +kernel
theorem dX12_readsLine_170 : decode cX12_readsLine 170 = .ok (.if_icmp .ne 27, 3) := by decide +kernel
theorem dX12_readsLine_173 : decode cX12_readsLine 173 = .ok (.aload_n 0, 1) := by decide +kernel
theorem dX12_readsLine_174 : decode cX12_readsLine 174 = .ok (.iconst 0, 1) := by decide +kernel
theorem dX12_readsLine_175 : decode cX12_readsLine 175 = .ok (.invokevirtual 277, 3) := by decide +kernel
theorem dX12_readsLine_178 : decode cX12_readsLine 178 = .ok (.ifCond .ne 5, 3) := by decide +kernel
theorem dX12_readsLine_181 : decode cX12_readsLine 181 = .ok (.iconst 0, 1) := by decide +kernel
theorem dX12_readsLine_182 : decode cX12_readsLine 182 = .ok (.ireturn, 1) := by decide +kernel
theorem dX12_readsLine_183 : decode cX12_readsLine 183 = .ok (.aload_n 0, 1) := by decide +kernel
theorem dX12_readsLine_184 : decode cX12_readsLine 184 = .ok (.getfield 90, 3) := by decide +kernel
theorem dX12_readsLine_187 : decode cX12_readsLine 187 = .ok (.iload_n 2, 1) := by decide +kernel
theorem dX12_readsLine_188 : decode cX12_readsLine 188 = .ok (.aload_n 0, 1) := by decide +kernel
theorem dX12_readsLine_189 : decode cX12_readsLine 189 = .ok (.getfield 263, 3) := by decide +kernel
theorem dX12_readsLine_192 : decode cX12_readsLine 192 = .ok (.iastore, 1) := by decide +kernel
theorem dX12_readsLine_193 : decode cX12_readsLine 193 = .ok (.aload_n 0, 1) := by decide +kernel
theorem dX12_readsLine_194 : decode cX12_readsLine 194 = .ok (.invokevirtual 197, 3) := by decide +kernel
theorem dX12_readsLine_197 : decode cX12_readsLine 197 = .ok (.aload_n 0, 1) := by decide +kernel
theorem dX12_readsLine_198 : decode cX12_readsLine 198 = .ok (.getfield 84, 3) := by decide +kernel
theorem dX12_readsLine_201 : decode cX12_readsLine 201 = .ok (.iconst 5, 1) := by decide +kernel
theorem dX12_readsLine_202 : decode cX12_readsLine 202 = .ok (.dup2, 1) := by decide +kernel
theorem dX12_readsLine_203 : decode cX12_readsLine 203 = .ok (.iaload, 1) := by decide +kernel
theorem dX12_readsLine_204 : decode cX12_readsLine 204 = .ok (.iconst 1, 1) := by decide +kernel
theorem dX12_readsLine_205 : decode cX12_readsLine 205 = .ok (.iadd, 1) := by decide +kernel
theorem dX12_readsLine_206 : decode cX12_readsLine 206 = .ok (.iastore, 1) := by decide +kernel
theorem dX12_readsLine_207 : decode cX12_readsLine 207 = .ok (.aload_n 0, 1) := by decide +kernel
theorem dX12_readsLine_208 : decode cX12_readsLine 208 = .ok (.invokevirtual 287, 3) := by decide +kernel
theorem dX12_readsLine_211 : decode cX12_readsLine 211 = .ok (.ireturn, 1) := by decide +kernel
def g_X12_readsLine_197 (t0 : Nat)  (h : zH) : Option (Bool × zH) := zgu (zin 5 6) <| zgu (zin 5 6) <| zlet (zpi h (zR t0 37) (zx 5) ((h.1 (zR t0 37) (zx 5)) + 1)) fun h_38 => (g_X12_closes h_38 t0).bind fun v_39 => some (v_39.1, v_39.2)
def g_X12_readsLine_131 (t0 : Nat)  (x2 : Int32) (h : zH) : Option (Bool × zH) := (g_X12_needsTwo h t0 0).bind fun v_29 => if (zb v_29.1) = 0 then (some (false, v_29.2)) else (zgu (zin x2 240) <| zlet (zpi v_29.2 (zR t0 39) (zx x2) (v_29.2.1 t0 36)) fun h_32 => zgu (zin x2 240) <| zlet (zpi h_32 (zR t0 40) (zx x2) (h_32.1 t0 35)) fun h_34 => (g_X12_nextToken h_34 t0).bind fun v_35 => g_X12_readsLine_197 t0 v_35)
def g_X12_readsLine_71 (t0 : Nat)  (s0 : Int32) (h : zH) : Option (Bool × zH) := if 0 ≤ s0 then (zgu (zin 5 6) <| if (h.1 (zR t0 37) (zx 5)) = 40 then ((g_X12_fails h t0 5).bind fun v_27 => some (v_27.1, v_27.2)) else ((g_X12_nextToken h t0).bind fun v_14 => zgu (zin 5 6) <| zlet (200 + (v_14.1 (zR t0 37) (zx 5))) fun v_16 => zgu (zin v_16 240) <| zlet (zpi v_14 (zR t0 38) (zx v_16) s0) fun h_18 => if s0 = 1 then (g_X12_readsLine_131 t0 v_16 h_18) else (if s0 = 2 then (g_X12_readsLine_131 t0 v_16 h_18) else (if s0 = 3 then ((g_X12_needsPerson h_18 t0 0).bind fun v_22 => if (zb v_22.1) = 0 then (some (false, v_22.2)) else (zgu (zin v_16 240) <| zlet (zpi v_22.2 (zR t0 39) (zx v_16) (v_22.2.1 t0 35)) fun h_25 => (g_X12_nextToken h_25 t0).bind fun v_26 => g_X12_readsLine_197 t0 v_26)) else (g_X12_readsLine_197 t0 h_18))))) else ((g_X12_fails h t0 1).bind fun v_28 => some (v_28.1, v_28.2))
def g_X12_readsLine (h : zH) (t0 : Nat) : Option (Bool × zH) := (g_X12_isWord h t0 14631).bind fun v_1 => if (zb v_1) = 0 then ((g_X12_isWord h t0 144524).bind fun v_3 => if (zb v_3) = 0 then ((g_X12_isWord h t0 60311).bind fun v_5 => if (zb v_5) = 0 then ((g_X12_isWord h t0 3164).bind fun v_7 => if (zb v_7) = 0 then ((g_X12_isWord h t0 2968).bind fun v_9 => if (zb v_9) = 0 then (g_X12_readsLine_71 t0 (-1) h) else (g_X12_readsLine_71 t0 4 h)) else (g_X12_readsLine_71 t0 3 h)) else (g_X12_readsLine_71 t0 2 h)) else (g_X12_readsLine_71 t0 1 h)) else (g_X12_readsLine_71 t0 0 h)
set_option maxRecDepth 100000 in
set_option maxHeartbeats 4000000 in
theorem b_X12_readsLine_197 {K : zK} {G : zG} (hK : zC K G cX12_readsLine RX12 3 3 64 (some .boolean)) {t0 : Nat} (ht0 : zT t0 = (11, 0)) {r : Bool × zH} (hE : zE K G (some (.int (zb r.1))) r.2) (h : zH) (hg : g_X12_readsLine_197 t0 h = some r) : zW K G 3 197 [(0, .ref (G.2.2.2 t0))] [] h := by
  rw [g_X12_readsLine_197] at hg
  obtain ⟨c_36, hg⟩ := zgu_some hg
  obtain ⟨c_37, hg⟩ := zgu_some hg
  obtain ⟨h_38, eh_38, hg⟩ := zlet_some hg
  obtain ⟨v_39, qv_39, hg⟩ := zbind_some hg
  exact z_aload_n (pc := 197) hK 0 dX12_readsLine_197 rfl (z_getR (pc := 198) hK f_X12_84_11 ht0 dX12_readsLine_198 (z_iconst (pc := 201) hK dX12_readsLine_201 zc_i5 (z_dup2 (pc := 202) hK dX12_readsLine_202 rfl rfl (z_iald (pc := 203) hK (zt_11_37 ht0) c_36 dX12_readsLine_203 (z_iconst (pc := 204) hK dX12_readsLine_204 zc_i1 (z_iadd (pc := 205) hK dX12_readsLine_205 (z_iast (pc := 206) hK (zt_11_37 ht0) c_37 dX12_readsLine_206 (z_nameH eh_38 (z_aload_n (pc := 207) hK 0 dX12_readsLine_207 rfl (z_callVi (pc := 208) hK [] (m_X12_closes (zC_D hK) ht0 qv_39) sv_X12_closes q_1541 ht0 rfl [] rfl (Nat.le_of_ble_eq_true rfl) ⟨by decide, by decide⟩ dX12_readsLine_208 (z_zretE (pc := 211) hK rfl hE hg dX12_readsLine_211)))))))))))
set_option maxRecDepth 100000 in
set_option maxHeartbeats 4000000 in
theorem b_X12_readsLine_131 {K : zK} {G : zG} (hK : zC K G cX12_readsLine RX12 3 3 64 (some .boolean)) {t0 : Nat} (ht0 : zT t0 = (11, 0)) {r : Bool × zH} (hE : zE K G (some (.int (zb r.1))) r.2) (x2 : Int32) (h : zH) (hg : g_X12_readsLine_131 t0 x2 h = some r) : zW K G 3 131 [(0, .ref (G.2.2.2 t0)), (2, .int x2)] [] h := by
  rw [g_X12_readsLine_131] at hg
  obtain ⟨v_29, qv_29, hg⟩ := zbind_some hg
  refine z_aload_n (pc := 131) hK 0 dX12_readsLine_131 rfl (z_iconst (pc := 132) hK dX12_readsLine_132 zc_i0 (z_callVi (pc := 133) hK [.int 0] (m_X12_needsTwo (zC_D hK) ht0 qv_29) sv_X12_needsTwo q_1553 ht0 rfl [] rfl (Nat.le_of_ble_eq_true rfl) ⟨by decide, by decide⟩ dX12_readsLine_133 (z_if_ne (pc := 136) hK 141 dX12_readsLine_136 (by decide) (fun c_30 => ?_) (fun c_30 => ?_))))
  · rw [if_neg c_30] at hg
    obtain ⟨c_31, hg⟩ := zgu_some hg
    obtain ⟨h_32, eh_32, hg⟩ := zlet_some hg
    obtain ⟨c_33, hg⟩ := zgu_some hg
    obtain ⟨h_34, eh_34, hg⟩ := zlet_some hg
    obtain ⟨v_35, qv_35, hg⟩ := zbind_some hg
    exact z_aload_n (pc := 141) hK 0 dX12_readsLine_141 rfl (z_getR (pc := 142) hK f_X12_90_11 ht0 dX12_readsLine_142 (z_iload_n (pc := 145) hK 1 dX12_readsLine_145 rfl (z_aload_n (pc := 146) hK 0 dX12_readsLine_146 rfl (z_getI (pc := 147) hK f_X12_280_11 ht0 dX12_readsLine_147 (z_iast (pc := 150) hK (zt_11_39 ht0) c_31 dX12_readsLine_150 (z_nameH eh_32 (z_aload_n (pc := 151) hK 0 dX12_readsLine_151 rfl (z_getR (pc := 152) hK f_X12_93_11 ht0 dX12_readsLine_152 (z_iload_n (pc := 155) hK 1 dX12_readsLine_155 rfl (z_aload_n (pc := 156) hK 0 dX12_readsLine_156 rfl (z_getI (pc := 157) hK f_X12_263_11 ht0 dX12_readsLine_157 (z_iast (pc := 160) hK (zt_11_40 ht0) c_33 dX12_readsLine_160 (z_nameH eh_34 (z_aload_n (pc := 161) hK 0 dX12_readsLine_161 rfl (z_callVv (pc := 162) hK [] (m_X12_nextToken (zC_D hK) ht0 qv_35) sv_X12_nextToken q_1474 ht0 rfl [] rfl (Nat.le_of_ble_eq_true rfl) ⟨by decide, by decide⟩ dX12_readsLine_162 (z_goto (pc := 165) hK 197 dX12_readsLine_165 (by decide) (zsub (lv' := [(0, .ref (G.2.2.2 t0))]) [0] rfl (b_X12_readsLine_197 hK ht0 hE v_35 hg))))))))))))))))))
  · rw [if_pos c_30] at hg
    exact z_iconst (pc := 139) hK dX12_readsLine_139 zc_i0 (z_zretE (pc := 140) hK rfl hE hg dX12_readsLine_140)
set_option maxRecDepth 100000 in
set_option maxHeartbeats 4000000 in
theorem b_X12_readsLine_71 {K : zK} {G : zG} (hK : zC K G cX12_readsLine RX12 3 3 64 (some .boolean)) {t0 : Nat} (ht0 : zT t0 = (11, 0)) {r : Bool × zH} (hE : zE K G (some (.int (zb r.1))) r.2) (s0 : Int32) (h : zH) (hg : g_X12_readsLine_71 t0 s0 h = some r) : zW K G 3 71 [(0, .ref (G.2.2.2 t0))] [.int s0] h := by
  rw [g_X12_readsLine_71] at hg
  refine z_istore_n (pc := 71) hK (lv' := [(1, .int s0), (0, .ref (G.2.2.2 t0))]) dX12_readsLine_71 (by decide) rfl (z_iload_n (pc := 72) hK 0 dX12_readsLine_72 rfl (z_if_ge (pc := 73) hK 82 dX12_readsLine_73 (by decide) (fun c_11 => ?_) (fun c_11 => ?_)))
  · rw [if_pos c_11] at hg
    obtain ⟨c_12, hg⟩ := zgu_some hg
    refine z_aload_n (pc := 82) hK 1 dX12_readsLine_82 rfl (z_getR (pc := 83) hK f_X12_84_11 ht0 dX12_readsLine_83 (z_iconst (pc := 86) hK dX12_readsLine_86 zc_i5 (z_iald (pc := 87) hK (zt_11_37 ht0) c_12 dX12_readsLine_87 (z_bipush (pc := 88) hK dX12_readsLine_88 zc_b40 (z_icmp_ne (pc := 90) hK 99 dX12_readsLine_90 (by decide) (fun c_13 => ?_) (fun c_13 => ?_))))))
    · rw [if_neg c_13] at hg
      obtain ⟨v_14, qv_14, hg⟩ := zbind_some hg
      obtain ⟨c_15, hg⟩ := zgu_some hg
      obtain ⟨v_16, ev_16, hg⟩ := zlet_some hg
      obtain ⟨c_17, hg⟩ := zgu_some hg
      obtain ⟨h_18, eh_18, hg⟩ := zlet_some hg
      refine z_aload_n (pc := 99) hK 1 dX12_readsLine_99 rfl (z_callVv (pc := 100) hK [] (m_X12_nextToken (zC_D hK) ht0 qv_14) sv_X12_nextToken q_1474 ht0 rfl [] rfl (Nat.le_of_ble_eq_true rfl) ⟨by decide, by decide⟩ dX12_readsLine_100 (z_sipush (pc := 103) hK dX12_readsLine_103 zc_s200 (z_aload_n (pc := 106) hK 1 dX12_readsLine_106 rfl (z_getR (pc := 107) hK f_X12_84_11 ht0 dX12_readsLine_107 (z_iconst (pc := 110) hK dX12_readsLine_110 zc_i5 (z_iald (pc := 111) hK (zt_11_37 ht0) c_15 dX12_readsLine_111 (z_iadd (pc := 112) hK dX12_readsLine_112 (z_nameI ev_16 (z_istore_n (pc := 113) hK (lv' := [(2, .int v_16), (1, .int s0), (0, .ref (G.2.2.2 t0))]) dX12_readsLine_113 (by decide) rfl (z_aload_n (pc := 114) hK 2 dX12_readsLine_114 rfl (z_getR (pc := 115) hK f_X12_87_11 ht0 dX12_readsLine_115 (z_iload_n (pc := 118) hK 0 dX12_readsLine_118 rfl (z_iload_n (pc := 119) hK 1 dX12_readsLine_119 rfl (z_iast (pc := 120) hK (zt_11_38 ht0) c_17 dX12_readsLine_120 (z_nameH eh_18 (z_iload_n (pc := 121) hK 1 dX12_readsLine_121 rfl (z_iconst (pc := 122) hK dX12_readsLine_122 zc_i1 (z_icmp_eq (pc := 123) hK 131 dX12_readsLine_123 (by decide) (fun c_19 => ?_) (fun c_19 => ?_)))))))))))))))))))
      · rw [if_pos c_19] at hg
        exact zsub (lv' := [(0, .ref (G.2.2.2 t0)), (2, .int v_16)]) [2, 0] rfl (b_X12_readsLine_131 hK ht0 hE v_16 h_18 hg)
      · rw [if_neg c_19] at hg
        refine z_iload_n (pc := 126) hK 1 dX12_readsLine_126 rfl (z_iconst (pc := 127) hK dX12_readsLine_127 zc_i2 (z_icmp_ne (pc := 128) hK 168 dX12_readsLine_128 (by decide) (fun c_20 => ?_) (fun c_20 => ?_)))
        · rw [if_neg c_20] at hg
          refine z_iload_n (pc := 168) hK 1 dX12_readsLine_168 rfl (z_iconst (pc := 169) hK dX12_readsLine_169 zc_i3 (z_icmp_ne (pc := 170) hK 197 dX12_readsLine_170 (by decide) (fun c_21 => ?_) (fun c_21 => ?_)))
          · rw [if_neg c_21] at hg
            exact zsub (lv' := [(0, .ref (G.2.2.2 t0))]) [2] rfl (b_X12_readsLine_197 hK ht0 hE h_18 hg)
          · rw [if_pos c_21] at hg
            obtain ⟨v_22, qv_22, hg⟩ := zbind_some hg
            refine z_aload_n (pc := 173) hK 2 dX12_readsLine_173 rfl (z_iconst (pc := 174) hK dX12_readsLine_174 zc_i0 (z_callVi (pc := 175) hK [.int 0] (m_X12_needsPerson (zC_D hK) ht0 qv_22) sv_X12_needsPerson q_1557 ht0 rfl [] rfl (Nat.le_of_ble_eq_true rfl) ⟨by decide, by decide⟩ dX12_readsLine_175 (z_if_ne (pc := 178) hK 183 dX12_readsLine_178 (by decide) (fun c_23 => ?_) (fun c_23 => ?_))))
            · rw [if_neg c_23] at hg
              obtain ⟨c_24, hg⟩ := zgu_some hg
              obtain ⟨h_25, eh_25, hg⟩ := zlet_some hg
              obtain ⟨v_26, qv_26, hg⟩ := zbind_some hg
              exact z_aload_n (pc := 183) hK 2 dX12_readsLine_183 rfl (z_getR (pc := 184) hK f_X12_90_11 ht0 dX12_readsLine_184 (z_iload_n (pc := 187) hK 0 dX12_readsLine_187 rfl (z_aload_n (pc := 188) hK 2 dX12_readsLine_188 rfl (z_getI (pc := 189) hK f_X12_263_11 ht0 dX12_readsLine_189 (z_iast (pc := 192) hK (zt_11_39 ht0) c_24 dX12_readsLine_192 (z_nameH eh_25 (z_aload_n (pc := 193) hK 2 dX12_readsLine_193 rfl (z_callVv (pc := 194) hK [] (m_X12_nextToken (zC_D hK) ht0 qv_26) sv_X12_nextToken q_1474 ht0 rfl [] rfl (Nat.le_of_ble_eq_true rfl) ⟨by decide, by decide⟩ dX12_readsLine_194 (zsub (lv' := [(0, .ref (G.2.2.2 t0))]) [2] rfl (b_X12_readsLine_197 hK ht0 hE v_26 hg))))))))))
            · rw [if_pos c_23] at hg
              exact z_iconst (pc := 181) hK dX12_readsLine_181 zc_i0 (z_zretE (pc := 182) hK rfl hE hg dX12_readsLine_182)
        · rw [if_pos c_20] at hg
          exact zsub (lv' := [(0, .ref (G.2.2.2 t0)), (2, .int v_16)]) [2, 0] rfl (b_X12_readsLine_131 hK ht0 hE v_16 h_18 hg)
    · rw [if_pos c_13] at hg
      obtain ⟨v_27, qv_27, hg⟩ := zbind_some hg
      exact z_aload_n (pc := 93) hK 1 dX12_readsLine_93 rfl (z_iconst (pc := 94) hK dX12_readsLine_94 zc_i5 (z_callVi (pc := 95) hK [.int 5] (m_X12_fails (zC_D hK) ht0 qv_27) sv_X12_fails q_1493 ht0 rfl [] rfl (Nat.le_of_ble_eq_true rfl) ⟨by decide, by decide⟩ dX12_readsLine_95 (z_zretE (pc := 98) hK rfl hE hg dX12_readsLine_98)))
  · rw [if_neg c_11] at hg
    obtain ⟨v_28, qv_28, hg⟩ := zbind_some hg
    exact z_aload_n (pc := 76) hK 1 dX12_readsLine_76 rfl (z_iconst (pc := 77) hK dX12_readsLine_77 zc_i1 (z_callVi (pc := 78) hK [.int 1] (m_X12_fails (zC_D hK) ht0 qv_28) sv_X12_fails q_1493 ht0 rfl [] rfl (Nat.le_of_ble_eq_true rfl) ⟨by decide, by decide⟩ dX12_readsLine_78 (z_zretE (pc := 81) hK rfl hE hg dX12_readsLine_81)))
set_option maxRecDepth 100000 in
set_option maxHeartbeats 4000000 in
theorem b_X12_readsLine {K : zK} {G : zG} (hK : zC K G cX12_readsLine RX12 3 3 64 (some .boolean)) {h : zH} {t0 : Nat} (ht0 : zT t0 = (11, 0)) {r : Bool × zH} (hE : zE K G (some (.int (zb r.1))) r.2) (hg : g_X12_readsLine h t0 = some r) : zW K G 3 0 [(0, .ref (G.2.2.2 t0))] [] h := by
  rw [g_X12_readsLine] at hg
  obtain ⟨v_1, qv_1, hg⟩ := zbind_some hg
  refine z_aload_n (pc := 0) hK 0 dX12_readsLine_0 rfl (z_ldc2 (pc := 1) hK q_1510 dX12_readsLine_1 (z_callVi (pc := 4) hK [.long 14631] (m_X12_isWord (zC_D hK) ht0 qv_1) sv_X12_isWord q_1485 ht0 rfl [] rfl (Nat.le_of_ble_eq_true rfl) ⟨by decide, by decide⟩ dX12_readsLine_4 (z_if_eq (pc := 7) hK 14 dX12_readsLine_7 (by decide) (fun c_2 => ?_) (fun c_2 => ?_))))
  · rw [if_pos c_2] at hg
    obtain ⟨v_3, qv_3, hg⟩ := zbind_some hg
    refine z_aload_n (pc := 14) hK 0 dX12_readsLine_14 rfl (z_ldc2 (pc := 15) hK q_1511 dX12_readsLine_15 (z_callVi (pc := 18) hK [.long 144524] (m_X12_isWord (zC_D hK) ht0 qv_3) sv_X12_isWord q_1485 ht0 rfl [] rfl (Nat.le_of_ble_eq_true rfl) ⟨by decide, by decide⟩ dX12_readsLine_18 (z_if_eq (pc := 21) hK 28 dX12_readsLine_21 (by decide) (fun c_4 => ?_) (fun c_4 => ?_))))
    · rw [if_pos c_4] at hg
      obtain ⟨v_5, qv_5, hg⟩ := zbind_some hg
      refine z_aload_n (pc := 28) hK 0 dX12_readsLine_28 rfl (z_ldc2 (pc := 29) hK q_1512 dX12_readsLine_29 (z_callVi (pc := 32) hK [.long 60311] (m_X12_isWord (zC_D hK) ht0 qv_5) sv_X12_isWord q_1485 ht0 rfl [] rfl (Nat.le_of_ble_eq_true rfl) ⟨by decide, by decide⟩ dX12_readsLine_32 (z_if_eq (pc := 35) hK 42 dX12_readsLine_35 (by decide) (fun c_6 => ?_) (fun c_6 => ?_))))
      · rw [if_pos c_6] at hg
        obtain ⟨v_7, qv_7, hg⟩ := zbind_some hg
        refine z_aload_n (pc := 42) hK 0 dX12_readsLine_42 rfl (z_ldc2 (pc := 43) hK q_1513 dX12_readsLine_43 (z_callVi (pc := 46) hK [.long 3164] (m_X12_isWord (zC_D hK) ht0 qv_7) sv_X12_isWord q_1485 ht0 rfl [] rfl (Nat.le_of_ble_eq_true rfl) ⟨by decide, by decide⟩ dX12_readsLine_46 (z_if_eq (pc := 49) hK 56 dX12_readsLine_49 (by decide) (fun c_8 => ?_) (fun c_8 => ?_))))
        · rw [if_pos c_8] at hg
          obtain ⟨v_9, qv_9, hg⟩ := zbind_some hg
          refine z_aload_n (pc := 56) hK 0 dX12_readsLine_56 rfl (z_ldc2 (pc := 57) hK q_1514 dX12_readsLine_57 (z_callVi (pc := 60) hK [.long 2968] (m_X12_isWord (zC_D hK) ht0 qv_9) sv_X12_isWord q_1485 ht0 rfl [] rfl (Nat.le_of_ble_eq_true rfl) ⟨by decide, by decide⟩ dX12_readsLine_60 (z_if_eq (pc := 63) hK 70 dX12_readsLine_63 (by decide) (fun c_10 => ?_) (fun c_10 => ?_))))
          · rw [if_pos c_10] at hg
            exact z_iconst (pc := 70) hK dX12_readsLine_70 zc_im1 (zsub (lv' := [(0, .ref (G.2.2.2 t0))]) [0] rfl (b_X12_readsLine_71 hK ht0 hE (-1) h hg))
          · rw [if_neg c_10] at hg
            exact z_iconst (pc := 66) hK dX12_readsLine_66 zc_i4 (z_goto (pc := 67) hK 71 dX12_readsLine_67 (by decide) (zsub (lv' := [(0, .ref (G.2.2.2 t0))]) [0] rfl (b_X12_readsLine_71 hK ht0 hE 4 h hg)))
        · rw [if_neg c_8] at hg
          exact z_iconst (pc := 52) hK dX12_readsLine_52 zc_i3 (z_goto (pc := 53) hK 71 dX12_readsLine_53 (by decide) (zsub (lv' := [(0, .ref (G.2.2.2 t0))]) [0] rfl (b_X12_readsLine_71 hK ht0 hE 3 h hg)))
      · rw [if_neg c_6] at hg
        exact z_iconst (pc := 38) hK dX12_readsLine_38 zc_i2 (z_goto (pc := 39) hK 71 dX12_readsLine_39 (by decide) (zsub (lv' := [(0, .ref (G.2.2.2 t0))]) [0] rfl (b_X12_readsLine_71 hK ht0 hE 2 h hg)))
    · rw [if_neg c_4] at hg
      exact z_iconst (pc := 24) hK dX12_readsLine_24 zc_i1 (z_goto (pc := 25) hK 71 dX12_readsLine_25 (by decide) (zsub (lv' := [(0, .ref (G.2.2.2 t0))]) [0] rfl (b_X12_readsLine_71 hK ht0 hE 1 h hg)))
  · rw [if_neg c_2] at hg
    exact z_iconst (pc := 10) hK dX12_readsLine_10 zc_i0 (z_goto (pc := 11) hK 71 dX12_readsLine_11 (by decide) (zsub (lv' := [(0, .ref (G.2.2.2 t0))]) [0] rfl (b_X12_readsLine_71 hK ht0 hE 0 h hg)))
theorem m_X12_readsLine {l : Launch} {G : zG} (hG : zD G) {h : zH} {t0 : Nat} (ht0 : zT t0 = (11, 0)) {r : Bool × zH} (hg : g_X12_readsLine h t0 = some r) : zM l G yX12_readsLine cX12_readsLine 3 (some .boolean) 3 64 [.ref (G.2.2.2 t0)] h (some (.int (zb r.1))) r.2 :=
  zM_of hG pn_X12 (Nat.le_of_ble_eq_true rfl) (fun K _ hK hE => b_X12_readsLine hK ht0 hE hg)
theorem dX12_laysLines_0 : decode cX12_laysLines 0 = .ok (.aload_n 0, 1) := by decide +kernel
theorem dX12_laysLines_1 : decode cX12_laysLines 1 = .ok (.getfield 84, 3) := by decide +kernel
theorem dX12_laysLines_4 : decode cX12_laysLines 4 = .ok (.iload_n 2, 1) := by decide +kernel
theorem dX12_laysLines_5 : decode cX12_laysLines 5 = .ok (.aload_n 0, 1) := by decide +kernel
theorem dX12_laysLines_6 : decode cX12_laysLines 6 = .ok (.getfield 84, 3) := by decide +kernel
theorem dX12_laysLines_9 : decode cX12_laysLines 9 = .ok (.iload_n 1, 1) := by decide +kernel
theorem dX12_laysLines_10 : decode cX12_laysLines 10 = .ok (.iaload, 1) := by decide +kernel
theorem dX12_laysLines_11 : decode cX12_laysLines 11 = .ok (.iastore, 1) := by decide +kernel
theorem dX12_laysLines_12 : decode cX12_laysLines 12 = .ok (.iconst 0, 1) := by decide +kernel
theorem dX12_laysLines_13 : decode cX12_laysLines 13 = .ok (.istore_n 3, 1) := by decide +kernel
theorem dX12_laysLines_14 : decode cX12_laysLines 14 = .ok (.iload_n 3, 1) := by decide +kernel
theorem dX12_laysLines_15 : decode cX12_laysLines 15 = .ok (.bipush 40, 2) := by decide +kernel
theorem dX12_laysLines_17 : decode cX12_laysLines 17 = .ok (.if_icmp .ge 75, 3) := by decide +kernel
theorem dX12_laysLines_20 : decode cX12_laysLines 20 = .ok (.aload_n 0, 1) := by decide +kernel
theorem dX12_laysLines_21 : decode cX12_laysLines 21 = .ok (.getfield 87, 3) := by decide +kernel
theorem dX12_laysLines_24 : decode cX12_laysLines 24 = .ok (.bipush 40, 2) := by decide +kernel
theorem dX12_laysLines_26 : decode cX12_laysLines 26 = .ok (.iload_n 2, 1) := by decide +kernel
theorem dX12_laysLines_27 : decode cX12_laysLines 27 = .ok (.imul, 1) := by decide +kernel
theorem dX12_laysLines_28 : decode cX12_laysLines 28 = .ok (.iload_n 3, 1) := by decide +kernel
theorem dX12_laysLines_29 : decode cX12_laysLines 29 = .ok (.iadd, 1) := by decide +kernel
theorem dX12_laysLines_30 : decode cX12_laysLines 30 = .ok (.aload_n 0, 1) := by decide +kernel
theorem dX12_laysLines_31 : decode cX12_laysLines 31 = .ok (.getfield 87, 3) := by decide +kernel
theorem dX12_laysLines_34 : decode cX12_laysLines 34 = .ok (.bipush 40, 2) := by decide +kernel
theorem dX12_laysLines_36 : decode cX12_laysLines 36 = .ok (.iload_n 1, 1) := by decide +kernel
theorem dX12_laysLines_37 : decode cX12_laysLines 37 = .ok (.imul, 1) := by decide +kernel
theorem dX12_laysLines_38 : decode cX12_laysLines 38 = .ok (.iload_n 3, 1) := by decide +kernel
theorem dX12_laysLines_39 : decode cX12_laysLines 39 = .ok (.iadd, 1) := by decide +kernel
theorem dX12_laysLines_40 : decode cX12_laysLines 40 = .ok (.iaload, 1) := by decide +kernel
theorem dX12_laysLines_41 : decode cX12_laysLines 41 = .ok (.iastore, 1) := by decide +kernel
theorem dX12_laysLines_42 : decode cX12_laysLines 42 = .ok (.aload_n 0, 1) := by decide +kernel
theorem dX12_laysLines_43 : decode cX12_laysLines 43 = .ok (.getfield 90, 3) := by decide +kernel
theorem dX12_laysLines_46 : decode cX12_laysLines 46 = .ok (.bipush 40, 2) := by decide +kernel
theorem dX12_laysLines_48 : decode cX12_laysLines 48 = .ok (.iload_n 2, 1) := by decide +kernel
theorem dX12_laysLines_49 : decode cX12_laysLines 49 = .ok (.imul, 1) := by decide +kernel
theorem dX12_laysLines_50 : decode cX12_laysLines 50 = .ok (.iload_n 3, 1) := by decide +kernel
theorem dX12_laysLines_51 : decode cX12_laysLines 51 = .ok (.iadd, 1) := by decide +kernel
theorem dX12_laysLines_52 : decode cX12_laysLines 52 = .ok (.aload_n 0, 1) := by decide +kernel
theorem dX12_laysLines_53 : decode cX12_laysLines 53 = .ok (.getfield 90, 3) := by decide +kernel
theorem dX12_laysLines_56 : decode cX12_laysLines 56 = .ok (.bipush 40, 2) := by decide +kernel
theorem dX12_laysLines_58 : decode cX12_laysLines 58 = .ok (.iload_n 1, 1) := by decide +kernel
theorem dX12_laysLines_59 : decode cX12_laysLines 59 = .ok (.imul, 1) := by decide +kernel
theorem dX12_laysLines_60 : decode cX12_laysLines 60 = .ok (.iload_n 3, 1) := by decide +kernel
theorem dX12_laysLines_61 : decode cX12_laysLines 61 = .ok (.iadd, 1) := by decide +kernel
theorem dX12_laysLines_62 : decode cX12_laysLines 62 = .ok (.iaload, 1) := by decide +kernel
theorem dX12_laysLines_63 : decode cX12_laysLines 63 = .ok (.iastore, 1) := by decide +kernel
theorem dX12_laysLines_64 : decode cX12_laysLines 64 = .ok (.aload_n 0, 1) := by decide +kernel
theorem dX12_laysLines_65 : decode cX12_laysLines 65 = .ok (.getfield 93, 3) := by decide +kernel
theorem dX12_laysLines_68 : decode cX12_laysLines 68 = .ok (.bipush 40, 2) := by decide +kernel
theorem dX12_laysLines_70 : decode cX12_laysLines 70 = .ok (.iload_n 2, 1) := by decide +kernel
theorem dX12_laysLines_71 : decode cX12_laysLines 71 = .ok (.imul, 1) := by decide +kernel
theorem dX12_laysLines_72 : decode cX12_laysLines 72 = .ok (.iload_n 3, 1) := by decide +kernel
theorem dX12_laysLines_73 : decode cX12_laysLines 73 = .ok (.iadd, 1) := by decide +kernel
theorem dX12_laysLines_74 : decode cX12_laysLines 74 = .ok (.aload_n 0, 1) := by decide +kernel
theorem dX12_laysLines_75 : decode cX12_laysLines 75 = .ok (.getfield 93, 3) := by decide +kernel
theorem dX12_laysLines_78 : decode cX12_laysLines 78 = .ok (.bipush 40, 2) := by decide +kernel
theorem dX12_laysLines_80 : decode cX12_laysLines 80 = .ok (.iload_n 1, 1) := by decide +kernel
theorem dX12_laysLines_81 : decode cX12_laysLines 81 = .ok (.imul, 1) := by decide +kernel
theorem dX12_laysLines_82 : decode cX12_laysLines 82 = .ok (.iload_n 3, 1) := by decide +kernel
theorem dX12_laysLines_83 : decode cX12_laysLines 83 = .ok (.iadd, 1) := by decide +kernel
theorem dX12_laysLines_84 : decode cX12_laysLines 84 = .ok (.iaload, 1) := by decide +kernel
theorem dX12_laysLines_85 : decode cX12_laysLines 85 = .ok (.iastore, 1) := by decide +kernel
theorem dX12_laysLines_86 : decode cX12_laysLines 86 = .ok (.iinc 3 1, 3) := by decide +kernel
theorem dX12_laysLines_89 : decode cX12_laysLines 89 = .ok (.goto (-75), 3) := by decide +kernel
theorem dX12_laysLines_92 : decode cX12_laysLines 92 = .ok (.return_, 1) := by decide +kernel
def g_X12_laysLines_14 (t0 : Nat)  : Nat → Int32 → Int32 → Int32 → zH → Option zH
  | 0, _, _, _, _ => none
  | n + 1, x1, x2, x3, h => if 40 ≤ x3 then (some h) else (zgu (zin ((40 * x1) + x3) 240) <| zgu (zin ((40 * x2) + x3) 240) <| zlet (zpi h (zR t0 38) (zx ((40 * x2) + x3)) (h.1 (zR t0 38) (zx ((40 * x1) + x3)))) fun h_7 => zgu (zin ((40 * x1) + x3) 240) <| zgu (zin ((40 * x2) + x3) 240) <| zlet (zpi h_7 (zR t0 39) (zx ((40 * x2) + x3)) (h_7.1 (zR t0 39) (zx ((40 * x1) + x3)))) fun h_10 => zgu (zin ((40 * x1) + x3) 240) <| zgu (zin ((40 * x2) + x3) 240) <| zlet (zpi h_10 (zR t0 40) (zx ((40 * x2) + x3)) (h_10.1 (zR t0 40) (zx ((40 * x1) + x3)))) fun h_13 => g_X12_laysLines_14 t0 n x1 x2 (x3 + 1) h_13)
def g_X12_laysLines (h : zH) (t0 : Nat) (x1 : Int32) (x2 : Int32) : Option zH := zgu (zin x1 6) <| zgu (zin x2 6) <| zlet (zpi h (zR t0 37) (zx x2) (h.1 (zR t0 37) (zx x1))) fun h_3 => g_X12_laysLines_14 t0 zfu x1 x2 0 h_3
set_option maxRecDepth 100000 in
set_option maxHeartbeats 4000000 in
theorem b_X12_laysLines_14 {K : zK} {G : zG} (hK : zC K G cX12_laysLines RX12 4 0 0 none) {t0 : Nat} (ht0 : zT t0 = (11, 0)) {r : zH} (hE : zE K G (none) r) : ∀ (n : Nat) (x1 : Int32) (x2 : Int32) (x3 : Int32) (h : zH), g_X12_laysLines_14 t0 n x1 x2 x3 h = some r → zW K G 4 14 [(0, .ref (G.2.2.2 t0)), (1, .int x1), (2, .int x2), (3, .int x3)] [] h := by
  intro n
  induction n with
  | zero => intro x1 x2 x3 h hg; exact nomatch (show none = some r from hg)
  | succ n ih =>
    intro x1 x2 x3 h hg
    rw [g_X12_laysLines_14] at hg
    refine z_iload_n (pc := 14) hK 3 dX12_laysLines_14 rfl (z_bipush (pc := 15) hK dX12_laysLines_15 zc_b40 (z_icmp_ge (pc := 17) hK 92 dX12_laysLines_17 (by decide) (fun c_4 => ?_) (fun c_4 => ?_)))
    · rw [if_pos c_4] at hg
      exact z_vretE (pc := 92) hK hE hg dX12_laysLines_92
    · rw [if_neg c_4] at hg
      obtain ⟨c_5, hg⟩ := zgu_some hg
      obtain ⟨c_6, hg⟩ := zgu_some hg
      obtain ⟨h_7, eh_7, hg⟩ := zlet_some hg
      obtain ⟨c_8, hg⟩ := zgu_some hg
      obtain ⟨c_9, hg⟩ := zgu_some hg
      obtain ⟨h_10, eh_10, hg⟩ := zlet_some hg
      obtain ⟨c_11, hg⟩ := zgu_some hg
      obtain ⟨c_12, hg⟩ := zgu_some hg
      obtain ⟨h_13, eh_13, hg⟩ := zlet_some hg
      exact z_aload_n (pc := 20) hK 0 dX12_laysLines_20 rfl (z_getR (pc := 21) hK f_X12_87_11 ht0 dX12_laysLines_21 (z_bipush (pc := 24) hK dX12_laysLines_24 zc_b40 (z_iload_n (pc := 26) hK 2 dX12_laysLines_26 rfl (z_imul (pc := 27) hK dX12_laysLines_27 (z_iload_n (pc := 28) hK 3 dX12_laysLines_28 rfl (z_iadd (pc := 29) hK dX12_laysLines_29 (z_aload_n (pc := 30) hK 0 dX12_laysLines_30 rfl (z_getR (pc := 31) hK f_X12_87_11 ht0 dX12_laysLines_31 (z_bipush (pc := 34) hK dX12_laysLines_34 zc_b40 (z_iload_n (pc := 36) hK 1 dX12_laysLines_36 rfl (z_imul (pc := 37) hK dX12_laysLines_37 (z_iload_n (pc := 38) hK 3 dX12_laysLines_38 rfl (z_iadd (pc := 39) hK dX12_laysLines_39 (z_iald (pc := 40) hK (zt_11_38 ht0) c_5 dX12_laysLines_40 (z_iast (pc := 41) hK (zt_11_38 ht0) c_6 dX12_laysLines_41 (z_nameH eh_7 (z_aload_n (pc := 42) hK 0 dX12_laysLines_42 rfl (z_getR (pc := 43) hK f_X12_90_11 ht0 dX12_laysLines_43 (z_bipush (pc := 46) hK dX12_laysLines_46 zc_b40 (z_iload_n (pc := 48) hK 2 dX12_laysLines_48 rfl (z_imul (pc := 49) hK dX12_laysLines_49 (z_iload_n (pc := 50) hK 3 dX12_laysLines_50 rfl (z_iadd (pc := 51) hK dX12_laysLines_51 (z_aload_n (pc := 52) hK 0 dX12_laysLines_52 rfl (z_getR (pc := 53) hK f_X12_90_11 ht0 dX12_laysLines_53 (z_bipush (pc := 56) hK dX12_laysLines_56 zc_b40 (z_iload_n (pc := 58) hK 1 dX12_laysLines_58 rfl (z_imul (pc := 59) hK dX12_laysLines_59 (z_iload_n (pc := 60) hK 3 dX12_laysLines_60 rfl (z_iadd (pc := 61) hK dX12_laysLines_61 (z_iald (pc := 62) hK (zt_11_39 ht0) c_8 dX12_laysLines_62 (z_iast (pc := 63) hK (zt_11_39 ht0) c_9 dX12_laysLines_63 (z_nameH eh_10 (z_aload_n (pc := 64) hK 0 dX12_laysLines_64 rfl (z_getR (pc := 65) hK f_X12_93_11 ht0 dX12_laysLines_65 (z_bipush (pc := 68) hK dX12_laysLines_68 zc_b40 (z_iload_n (pc := 70) hK 2 dX12_laysLines_70 rfl (z_imul (pc := 71) hK dX12_laysLines_71 (z_iload_n (pc := 72) hK 3 dX12_laysLines_72 rfl (z_iadd (pc := 73) hK dX12_laysLines_73 (z_aload_n (pc := 74) hK 0 dX12_laysLines_74 rfl (z_getR (pc := 75) hK f_X12_93_11 ht0 dX12_laysLines_75 (z_bipush (pc := 78) hK dX12_laysLines_78 zc_b40 (z_iload_n (pc := 80) hK 1 dX12_laysLines_80 rfl (z_imul (pc := 81) hK dX12_laysLines_81 (z_iload_n (pc := 82) hK 3 dX12_laysLines_82 rfl (z_iadd (pc := 83) hK dX12_laysLines_83 (z_iald (pc := 84) hK (zt_11_40 ht0) c_11 dX12_laysLines_84 (z_iast (pc := 85) hK (zt_11_40 ht0) c_12 dX12_laysLines_85 (z_nameH eh_13 (z_iinc (pc := 86) hK 3 (lv' := [(3, .int (x3 + 1)), (0, .ref (G.2.2.2 t0)), (1, .int x1), (2, .int x2)]) dX12_laysLines_86 rfl (zc_n1 _) (by decide) rfl (z_goto (pc := 89) hK 14 dX12_laysLines_89 (by decide) (zsub (lv' := [(0, .ref (G.2.2.2 t0)), (1, .int x1), (2, .int x2), (3, .int (x3 + 1))]) [1, 2, 3, 0] rfl (ih x1 x2 (x3 + 1) h_13 hg))))))))))))))))))))))))))))))))))))))))))))))))))))))
set_option maxRecDepth 100000 in
set_option maxHeartbeats 4000000 in
theorem b_X12_laysLines {K : zK} {G : zG} (hK : zC K G cX12_laysLines RX12 4 0 0 none) {h : zH} {t0 : Nat} {x1 : Int32} {x2 : Int32} (ht0 : zT t0 = (11, 0)) {r : zH} (hE : zE K G (none) r) (hg : g_X12_laysLines h t0 x1 x2 = some r) : zW K G 4 0 [(0, .ref (G.2.2.2 t0)), (1, .int x1), (2, .int x2)] [] h := by
  rw [g_X12_laysLines] at hg
  obtain ⟨c_1, hg⟩ := zgu_some hg
  obtain ⟨c_2, hg⟩ := zgu_some hg
  obtain ⟨h_3, eh_3, hg⟩ := zlet_some hg
  exact z_aload_n (pc := 0) hK 0 dX12_laysLines_0 rfl (z_getR (pc := 1) hK f_X12_84_11 ht0 dX12_laysLines_1 (z_iload_n (pc := 4) hK 2 dX12_laysLines_4 rfl (z_aload_n (pc := 5) hK 0 dX12_laysLines_5 rfl (z_getR (pc := 6) hK f_X12_84_11 ht0 dX12_laysLines_6 (z_iload_n (pc := 9) hK 1 dX12_laysLines_9 rfl (z_iald (pc := 10) hK (zt_11_37 ht0) c_1 dX12_laysLines_10 (z_iast (pc := 11) hK (zt_11_37 ht0) c_2 dX12_laysLines_11 (z_nameH eh_3 (z_iconst (pc := 12) hK dX12_laysLines_12 zc_i0 (z_istore_n (pc := 13) hK (lv' := [(3, .int 0), (0, .ref (G.2.2.2 t0)), (1, .int x1), (2, .int x2)]) dX12_laysLines_13 (by decide) rfl (zsub (lv' := [(0, .ref (G.2.2.2 t0)), (1, .int x1), (2, .int x2), (3, .int 0)]) [1, 2, 3, 0] rfl (b_X12_laysLines_14 hK ht0 hE zfu x1 x2 0 h_3 hg))))))))))))
theorem m_X12_laysLines {l : Launch} {G : zG} (hG : zD G) {h : zH} {t0 : Nat} {x1 : Int32} {x2 : Int32} (ht0 : zT t0 = (11, 0)) {r : zH} (hg : g_X12_laysLines h t0 x1 x2 = some r) : zM l G yX12_laysLines cX12_laysLines 4 none 0 0 [.ref (G.2.2.2 t0), .int x1, .int x2] h (none) r :=
  zM_of hG pn_X12 (Nat.le_of_ble_eq_true rfl) (fun K _ hK hE => b_X12_laysLines hK ht0 hE hg)
theorem dX12_laysHeard_0 : decode cX12_laysHeard 0 = .ok (.aload_n 0, 1) := by decide +kernel
theorem dX12_laysHeard_1 : decode cX12_laysHeard 1 = .ok (.getfield 96, 3) := by decide +kernel
theorem dX12_laysHeard_4 : decode cX12_laysHeard 4 = .ok (.iload_n 2, 1) := by decide +kernel
theorem dX12_laysHeard_5 : decode cX12_laysHeard 5 = .ok (.aload_n 0, 1) := by decide +kernel
theorem dX12_laysHeard_6 : decode cX12_laysHeard 6 = .ok (.getfield 96, 3) := by decide +kernel
theorem dX12_laysHeard_9 : decode cX12_laysHeard 9 = .ok (.iload_n 1, 1) := by decide +kernel
theorem dX12_laysHeard_10 : decode cX12_laysHeard 10 = .ok (.iaload, 1) := by decide +kernel
theorem dX12_laysHeard_11 : decode cX12_laysHeard 11 = .ok (.iastore, 1) := by decide +kernel
theorem dX12_laysHeard_12 : decode cX12_laysHeard 12 = .ok (.iconst 0, 1) := by decide +kernel
theorem dX12_laysHeard_13 : decode cX12_laysHeard 13 = .ok (.istore_n 3, 1) := by decide +kernel
theorem dX12_laysHeard_14 : decode cX12_laysHeard 14 = .ok (.iload_n 3, 1) := by decide +kernel
theorem dX12_laysHeard_15 : decode cX12_laysHeard 15 = .ok (.bipush 8, 2) := by decide +kernel
theorem dX12_laysHeard_17 : decode cX12_laysHeard 17 = .ok (.if_icmp .ge 53, 3) := by decide +kernel
theorem dX12_laysHeard_20 : decode cX12_laysHeard 20 = .ok (.aload_n 0, 1) := by decide +kernel
theorem dX12_laysHeard_21 : decode cX12_laysHeard 21 = .ok (.getfield 99, 3) := by decide +kernel
theorem dX12_laysHeard_24 : decode cX12_laysHeard 24 = .ok (.bipush 8, 2) := by decide +kernel
theorem dX12_laysHeard_26 : decode cX12_laysHeard 26 = .ok (.iload_n 2, 1) := by decide +kernel
theorem dX12_laysHeard_27 : decode cX12_laysHeard 27 = .ok (.imul, 1) := by decide +kernel
theorem dX12_laysHeard_28 : decode cX12_laysHeard 28 = .ok (.iload_n 3, 1) := by decide +kernel
theorem dX12_laysHeard_29 : decode cX12_laysHeard 29 = .ok (.iadd, 1) := by decide +kernel
theorem dX12_laysHeard_30 : decode cX12_laysHeard 30 = .ok (.aload_n 0, 1) := by decide +kernel
theorem dX12_laysHeard_31 : decode cX12_laysHeard 31 = .ok (.getfield 99, 3) := by decide +kernel
theorem dX12_laysHeard_34 : decode cX12_laysHeard 34 = .ok (.bipush 8, 2) := by decide +kernel
theorem dX12_laysHeard_36 : decode cX12_laysHeard 36 = .ok (.iload_n 1, 1) := by decide +kernel
theorem dX12_laysHeard_37 : decode cX12_laysHeard 37 = .ok (.imul, 1) := by decide +kernel
theorem dX12_laysHeard_38 : decode cX12_laysHeard 38 = .ok (.iload_n 3, 1) := by decide +kernel
theorem dX12_laysHeard_39 : decode cX12_laysHeard 39 = .ok (.iadd, 1) := by decide +kernel
theorem dX12_laysHeard_40 : decode cX12_laysHeard 40 = .ok (.iaload, 1) := by decide +kernel
theorem dX12_laysHeard_41 : decode cX12_laysHeard 41 = .ok (.iastore, 1) := by decide +kernel
theorem dX12_laysHeard_42 : decode cX12_laysHeard 42 = .ok (.aload_n 0, 1) := by decide +kernel
theorem dX12_laysHeard_43 : decode cX12_laysHeard 43 = .ok (.getfield 102, 3) := by decide +kernel
theorem dX12_laysHeard_46 : decode cX12_laysHeard 46 = .ok (.bipush 8, 2) := by decide +kernel
theorem dX12_laysHeard_48 : decode cX12_laysHeard 48 = .ok (.iload_n 2, 1) := by decide +kernel
theorem dX12_laysHeard_49 : decode cX12_laysHeard 49 = .ok (.imul, 1) := by decide +kernel
theorem dX12_laysHeard_50 : decode cX12_laysHeard 50 = .ok (.iload_n 3, 1) := by decide +kernel
theorem dX12_laysHeard_51 : decode cX12_laysHeard 51 = .ok (.iadd, 1) := by decide +kernel
theorem dX12_laysHeard_52 : decode cX12_laysHeard 52 = .ok (.aload_n 0, 1) := by decide +kernel
theorem dX12_laysHeard_53 : decode cX12_laysHeard 53 = .ok (.getfield 102, 3) := by decide +kernel
theorem dX12_laysHeard_56 : decode cX12_laysHeard 56 = .ok (.bipush 8, 2) := by decide +kernel
theorem dX12_laysHeard_58 : decode cX12_laysHeard 58 = .ok (.iload_n 1, 1) := by decide +kernel
theorem dX12_laysHeard_59 : decode cX12_laysHeard 59 = .ok (.imul, 1) := by decide +kernel
theorem dX12_laysHeard_60 : decode cX12_laysHeard 60 = .ok (.iload_n 3, 1) := by decide +kernel
theorem dX12_laysHeard_61 : decode cX12_laysHeard 61 = .ok (.iadd, 1) := by decide +kernel
theorem dX12_laysHeard_62 : decode cX12_laysHeard 62 = .ok (.baload, 1) := by decide +kernel
theorem dX12_laysHeard_63 : decode cX12_laysHeard 63 = .ok (.bastore, 1) := by decide +kernel
theorem dX12_laysHeard_64 : decode cX12_laysHeard 64 = .ok (.iinc 3 1, 3) := by decide +kernel
theorem dX12_laysHeard_67 : decode cX12_laysHeard 67 = .ok (.goto (-53), 3) := by decide +kernel
theorem dX12_laysHeard_70 : decode cX12_laysHeard 70 = .ok (.return_, 1) := by decide +kernel
def g_X12_laysHeard_14 (t0 : Nat)  : Nat → Int32 → Int32 → Int32 → zH → Option zH
  | 0, _, _, _, _ => none
  | n + 1, x1, x2, x3, h => if 8 ≤ x3 then (some h) else (zgu (zin ((8 * x1) + x3) 40) <| zgu (zin ((8 * x2) + x3) 40) <| zlet (zpi h (zR t0 42) (zx ((8 * x2) + x3)) (h.1 (zR t0 42) (zx ((8 * x1) + x3)))) fun h_7 => zgu (zin ((8 * x1) + x3) 40) <| zgu (zin ((8 * x2) + x3) 40) <| zlet (zpi h_7 (zR t0 43) (zx ((8 * x2) + x3)) (vp_nar .boolean (h_7.1 (zR t0 43) (zx ((8 * x1) + x3))))) fun h_10 => g_X12_laysHeard_14 t0 n x1 x2 (x3 + 1) h_10)
def g_X12_laysHeard (h : zH) (t0 : Nat) (x1 : Int32) (x2 : Int32) : Option zH := zgu (zin x1 5) <| zgu (zin x2 5) <| zlet (zpi h (zR t0 41) (zx x2) (h.1 (zR t0 41) (zx x1))) fun h_3 => g_X12_laysHeard_14 t0 zfu x1 x2 0 h_3
set_option maxRecDepth 100000 in
set_option maxHeartbeats 4000000 in
theorem b_X12_laysHeard_14 {K : zK} {G : zG} (hK : zC K G cX12_laysHeard RX12 4 0 0 none) {t0 : Nat} (ht0 : zT t0 = (11, 0)) {r : zH} (hE : zE K G (none) r) : ∀ (n : Nat) (x1 : Int32) (x2 : Int32) (x3 : Int32) (h : zH), g_X12_laysHeard_14 t0 n x1 x2 x3 h = some r → zW K G 4 14 [(0, .ref (G.2.2.2 t0)), (1, .int x1), (2, .int x2), (3, .int x3)] [] h := by
  intro n
  induction n with
  | zero => intro x1 x2 x3 h hg; exact nomatch (show none = some r from hg)
  | succ n ih =>
    intro x1 x2 x3 h hg
    rw [g_X12_laysHeard_14] at hg
    refine z_iload_n (pc := 14) hK 3 dX12_laysHeard_14 rfl (z_bipush (pc := 15) hK dX12_laysHeard_15 zc_b8 (z_icmp_ge (pc := 17) hK 70 dX12_laysHeard_17 (by decide) (fun c_4 => ?_) (fun c_4 => ?_)))
    · rw [if_pos c_4] at hg
      exact z_vretE (pc := 70) hK hE hg dX12_laysHeard_70
    · rw [if_neg c_4] at hg
      obtain ⟨c_5, hg⟩ := zgu_some hg
      obtain ⟨c_6, hg⟩ := zgu_some hg
      obtain ⟨h_7, eh_7, hg⟩ := zlet_some hg
      obtain ⟨c_8, hg⟩ := zgu_some hg
      obtain ⟨c_9, hg⟩ := zgu_some hg
      obtain ⟨h_10, eh_10, hg⟩ := zlet_some hg
      exact z_aload_n (pc := 20) hK 0 dX12_laysHeard_20 rfl (z_getR (pc := 21) hK f_X12_99_11 ht0 dX12_laysHeard_21 (z_bipush (pc := 24) hK dX12_laysHeard_24 zc_b8 (z_iload_n (pc := 26) hK 2 dX12_laysHeard_26 rfl (z_imul (pc := 27) hK dX12_laysHeard_27 (z_iload_n (pc := 28) hK 3 dX12_laysHeard_28 rfl (z_iadd (pc := 29) hK dX12_laysHeard_29 (z_aload_n (pc := 30) hK 0 dX12_laysHeard_30 rfl (z_getR (pc := 31) hK f_X12_99_11 ht0 dX12_laysHeard_31 (z_bipush (pc := 34) hK dX12_laysHeard_34 zc_b8 (z_iload_n (pc := 36) hK 1 dX12_laysHeard_36 rfl (z_imul (pc := 37) hK dX12_laysHeard_37 (z_iload_n (pc := 38) hK 3 dX12_laysHeard_38 rfl (z_iadd (pc := 39) hK dX12_laysHeard_39 (z_iald (pc := 40) hK (zt_11_42 ht0) c_5 dX12_laysHeard_40 (z_iast (pc := 41) hK (zt_11_42 ht0) c_6 dX12_laysHeard_41 (z_nameH eh_7 (z_aload_n (pc := 42) hK 0 dX12_laysHeard_42 rfl (z_getR (pc := 43) hK f_X12_102_11 ht0 dX12_laysHeard_43 (z_bipush (pc := 46) hK dX12_laysHeard_46 zc_b8 (z_iload_n (pc := 48) hK 2 dX12_laysHeard_48 rfl (z_imul (pc := 49) hK dX12_laysHeard_49 (z_iload_n (pc := 50) hK 3 dX12_laysHeard_50 rfl (z_iadd (pc := 51) hK dX12_laysHeard_51 (z_aload_n (pc := 52) hK 0 dX12_laysHeard_52 rfl (z_getR (pc := 53) hK f_X12_102_11 ht0 dX12_laysHeard_53 (z_bipush (pc := 56) hK dX12_laysHeard_56 zc_b8 (z_iload_n (pc := 58) hK 1 dX12_laysHeard_58 rfl (z_imul (pc := 59) hK dX12_laysHeard_59 (z_iload_n (pc := 60) hK 3 dX12_laysHeard_60 rfl (z_iadd (pc := 61) hK dX12_laysHeard_61 (z_zald (pc := 62) hK (zt_11_43 ht0) c_8 dX12_laysHeard_62 (z_zast (pc := 63) hK (zt_11_43 ht0) c_9 dX12_laysHeard_63 (z_nameH eh_10 (z_iinc (pc := 64) hK 3 (lv' := [(3, .int (x3 + 1)), (0, .ref (G.2.2.2 t0)), (1, .int x1), (2, .int x2)]) dX12_laysHeard_64 rfl (zc_n1 _) (by decide) rfl (z_goto (pc := 67) hK 14 dX12_laysHeard_67 (by decide) (zsub (lv' := [(0, .ref (G.2.2.2 t0)), (1, .int x1), (2, .int x2), (3, .int (x3 + 1))]) [1, 2, 3, 0] rfl (ih x1 x2 (x3 + 1) h_10 hg)))))))))))))))))))))))))))))))))))))
set_option maxRecDepth 100000 in
set_option maxHeartbeats 4000000 in
theorem b_X12_laysHeard {K : zK} {G : zG} (hK : zC K G cX12_laysHeard RX12 4 0 0 none) {h : zH} {t0 : Nat} {x1 : Int32} {x2 : Int32} (ht0 : zT t0 = (11, 0)) {r : zH} (hE : zE K G (none) r) (hg : g_X12_laysHeard h t0 x1 x2 = some r) : zW K G 4 0 [(0, .ref (G.2.2.2 t0)), (1, .int x1), (2, .int x2)] [] h := by
  rw [g_X12_laysHeard] at hg
  obtain ⟨c_1, hg⟩ := zgu_some hg
  obtain ⟨c_2, hg⟩ := zgu_some hg
  obtain ⟨h_3, eh_3, hg⟩ := zlet_some hg
  exact z_aload_n (pc := 0) hK 0 dX12_laysHeard_0 rfl (z_getR (pc := 1) hK f_X12_96_11 ht0 dX12_laysHeard_1 (z_iload_n (pc := 4) hK 2 dX12_laysHeard_4 rfl (z_aload_n (pc := 5) hK 0 dX12_laysHeard_5 rfl (z_getR (pc := 6) hK f_X12_96_11 ht0 dX12_laysHeard_6 (z_iload_n (pc := 9) hK 1 dX12_laysHeard_9 rfl (z_iald (pc := 10) hK (zt_11_41 ht0) c_1 dX12_laysHeard_10 (z_iast (pc := 11) hK (zt_11_41 ht0) c_2 dX12_laysHeard_11 (z_nameH eh_3 (z_iconst (pc := 12) hK dX12_laysHeard_12 zc_i0 (z_istore_n (pc := 13) hK (lv' := [(3, .int 0), (0, .ref (G.2.2.2 t0)), (1, .int x1), (2, .int x2)]) dX12_laysHeard_13 (by decide) rfl (zsub (lv' := [(0, .ref (G.2.2.2 t0)), (1, .int x1), (2, .int x2), (3, .int 0)]) [1, 2, 3, 0] rfl (b_X12_laysHeard_14 hK ht0 hE zfu x1 x2 0 h_3 hg))))))))))))
theorem m_X12_laysHeard {l : Launch} {G : zG} (hG : zD G) {h : zH} {t0 : Nat} {x1 : Int32} {x2 : Int32} (ht0 : zT t0 = (11, 0)) {r : zH} (hg : g_X12_laysHeard h t0 x1 x2 = some r) : zM l G yX12_laysHeard cX12_laysHeard 4 none 0 0 [.ref (G.2.2.2 t0), .int x1, .int x2] h (none) r :=
  zM_of hG pn_X12 (Nat.le_of_ble_eq_true rfl) (fun K _ hK hE => b_X12_laysHeard hK ht0 hE hg)
theorem dX12_fresh_0 : decode cX12_fresh 0 = .ok (.iconst 0, 1) := by decide +kernel
theorem dX12_fresh_1 : decode cX12_fresh 1 = .ok (.istore_n 1, 1) := by decide +kernel
theorem dX12_fresh_2 : decode cX12_fresh 2 = .ok (.iload_n 1, 1) := by decide +kernel
theorem dX12_fresh_3 : decode cX12_fresh 3 = .ok (.bipush 107, 2) := by decide +kernel
theorem dX12_fresh_5 : decode cX12_fresh 5 = .ok (.if_icmp .ge 16, 3) := by decide +kernel
theorem dX12_fresh_8 : decode cX12_fresh 8 = .ok (.aload_n 0, 1) := by decide +kernel
theorem dX12_fresh_9 : decode cX12_fresh 9 = .ok (.getfield 105, 3) := by decide +kernel
theorem dX12_fresh_12 : decode cX12_fresh 12 = .ok (.iload_n 1, 1) := by decide +kernel
theorem dX12_fresh_13 : decode cX12_fresh 13 = .ok (.iconst 0, 1) := by decide +kernel
theorem dX12_fresh_14 : decode cX12_fresh 14 = .ok (.iastore, 1) := by decide +kernel
theorem dX12_fresh_15 : decode cX12_fresh 15 = .ok (.iinc 1 1, 3) := by decide +kernel
theorem dX12_fresh_18 : decode cX12_fresh 18 = .ok (.goto (-16), 3) := by decide +kernel
theorem dX12_fresh_21 : decode cX12_fresh 21 = .ok (.aload_n 0, 1) := by decide +kernel
theorem dX12_fresh_22 : decode cX12_fresh 22 = .ok (.getfield 105, 3) := by decide +kernel
theorem dX12_fresh_25 : decode cX12_fresh 25 = .ok (.iconst 1, 1) := by decide +kernel
theorem dX12_fresh_26 : decode cX12_fresh 26 = .ok (.iconst 1, 1) := by decide +kernel
theorem dX12_fresh_27 : decode cX12_fresh 27 = .ok (.aload_n 0, 1) := by decide +kernel
theorem dX12_fresh_28 : decode cX12_fresh 28 = .ok (.getfield 13, 3) := by decide +kernel
theorem dX12_fresh_31 : decode cX12_fresh 31 = .ok (.iconst 0, 1) := by decide +kernel
theorem dX12_fresh_32 : decode cX12_fresh 32 = .ok (.iaload, 1) := by decide +kernel
theorem dX12_fresh_33 : decode cX12_fresh 33 = .ok (.ishl, 1) := by decide +kernel
theorem dX12_fresh_34 : decode cX12_fresh 34 = .ok (.iconst 1, 1) := by decide +kernel
theorem dX12_fresh_35 : decode cX12_fresh 35 = .ok (.isub, 1) := by decide +kernel
theorem dX12_fresh_36 : decode cX12_fresh 36 = .ok (.iastore, 1) := by decide +kernel
theorem dX12_fresh_37 : decode cX12_fresh 37 = .ok (.iconst 0, 1) := by decide +kernel
theorem dX12_fresh_38 : decode cX12_fresh 38 = .ok (.istore_n 1, 1) := by decide +kernel
theorem dX12_fresh_39 : decode cX12_fresh 39 = .ok (.iload_n 1, 1) := by decide +kernel
theorem dX12_fresh_40 : decode cX12_fresh 40 = .ok (.aload_n 0, 1) := by decide +kernel
theorem dX12_fresh_41 : decode cX12_fresh 41 = .ok (.getfield 13, 3) := by decide +kernel
theorem dX12_fresh_44 : decode cX12_fresh 44 = .ok (.iconst 0, 1) := by decide +kernel
theorem dX12_fresh_45 : decode cX12_fresh 45 = .ok (.iaload, 1) := by decide +kernel
theorem dX12_fresh_46 : decode cX12_fresh 46 = .ok (.if_icmp .ge 18, 3) := by decide +kernel
theorem dX12_fresh_49 : decode cX12_fresh 49 = .ok (.aload_n 0, 1) := by decide +kernel
theorem dX12_fresh_50 : decode cX12_fresh 50 = .ok (.getfield 105, 3) := by decide +kernel
theorem dX12_fresh_53 : decode cX12_fresh 53 = .ok (.iconst 2, 1) := by decide +kernel
theorem dX12_fresh_54 : decode cX12_fresh 54 = .ok (.iload_n 1, 1) := by decide +kernel
theorem dX12_fresh_55 : decode cX12_fresh 55 = .ok (.iadd, 1) := by decide +kernel
theorem dX12_fresh_56 : decode cX12_fresh 56 = .ok (.iconst 1, 1) := by decide +kernel
theorem dX12_fresh_57 : decode cX12_fresh 57 = .ok (.iastore, 1) := by decide +kernel
theorem dX12_fresh_58 : decode cX12_fresh 58 = .ok (.iinc 1 1, 3) := by decide +kernel
theorem dX12_fresh_61 : decode cX12_fresh 61 = .ok (.goto (-22), 3) := by decide +kernel
theorem dX12_fresh_64 : decode cX12_fresh 64 = .ok (.iconst 0, 1) := by decide +kernel
theorem dX12_fresh_65 : decode cX12_fresh 65 = .ok (.istore_n 1, 1) := by decide +kernel
theorem dX12_fresh_66 : decode cX12_fresh 66 = .ok (.iload_n 1, 1) := by decide +kernel
theorem dX12_fresh_67 : decode cX12_fresh 67 = .ok (.bipush 49, 2) := by decide +kernel
theorem dX12_fresh_69 : decode cX12_fresh 69 = .ok (.if_icmp .ge 24, 3) := by decide +kernel
theorem dX12_fresh_72 : decode cX12_fresh 72 = .ok (.aload_n 0, 1) := by decide +kernel
theorem dX12_fresh_73 : decode cX12_fresh 73 = .ok (.getfield 105, 3) := by decide +kernel
theorem dX12_fresh_76 : decode cX12_fresh 76 = .ok (.bipush 9, 2) := by decide +kernel
theorem dX12_fresh_78 : decode cX12_fresh 78 = .ok (.iload_n 1, 1) := by decide +kernel
theorem dX12_fresh_79 : decode cX12_fresh 79 = .ok (.iadd, 1) := by decide +kernel
theorem dX12_fresh_80 : decode cX12_fresh 80 = .ok (.aload_n 0, 1) := by decide +kernel
theorem dX12_fresh_81 : decode cX12_fresh 81 = .ok (.getfield 32, 3) := by decide +kernel
theorem dX12_fresh_84 : decode cX12_fresh 84 = .ok (.iload_n 1, 1) := by decide +kernel
theorem dX12_fresh_85 : decode cX12_fresh 85 = .ok (.iaload, 1) := by decide +kernel
theorem dX12_fresh_86 : decode cX12_fresh 86 = .ok (.iastore, 1) := by decide +kernel
theorem dX12_fresh_87 : decode cX12_fresh 87 = .ok (.iinc 1 1, 3) := by decide +kernel
theorem dX12_fresh_90 : decode cX12_fresh 90 = .ok (.goto (-24), 3) := by decide +kernel
theorem dX12_fresh_93 : decode cX12_fresh 93 = .ok (.return_, 1) := by decide +kernel
def g_X12_fresh_66 (t0 : Nat)  : Nat → Int32 → zH → Option zH
  | 0, _, _ => none
  | n + 1, x1, h => if 49 ≤ x1 then (some h) else (zgu (zin x1 98) <| zgu (zin (9 + x1) 107) <| zlet (zpi h (zR t0 44) (zx (9 + x1)) (h.1 (zR t0 16) (zx x1))) fun h_14 => g_X12_fresh_66 t0 n (x1 + 1) h_14)
def g_X12_fresh_39 (t0 : Nat)  : Nat → Int32 → zH → Option zH
  | 0, _, _ => none
  | n + 1, x1, h => zgu (zin 0 8) <| if (h.1 (zR t0 10) (zx 0)) ≤ x1 then (g_X12_fresh_66 t0 zfu 0 h) else (zgu (zin (2 + x1) 107) <| zlet (zpi h (zR t0 44) (zx (2 + x1)) 1) fun h_10 => g_X12_fresh_39 t0 n (x1 + 1) h_10)
def g_X12_fresh_2 (t0 : Nat)  : Nat → Int32 → zH → Option zH
  | 0, _, _ => none
  | n + 1, x1, h => if 107 ≤ x1 then (zgu (zin 0 8) <| zgu (zin 1 107) <| zlet (zpi h (zR t0 44) (zx 1) (((1 : Int32) <<< ((h.1 (zR t0 10) (zx 0)) &&& 31)) - 1)) fun h_4 => g_X12_fresh_39 t0 zfu 0 h_4) else (zgu (zin x1 107) <| zlet (zpi h (zR t0 44) (zx x1) 0) fun h_6 => g_X12_fresh_2 t0 n (x1 + 1) h_6)
def g_X12_fresh (h : zH) (t0 : Nat) : Option zH := g_X12_fresh_2 t0 zfu 0 h
set_option maxRecDepth 100000 in
set_option maxHeartbeats 4000000 in
theorem b_X12_fresh_66 {K : zK} {G : zG} (hK : zC K G cX12_fresh RX12 2 0 0 none) {t0 : Nat} (ht0 : zT t0 = (11, 0)) {r : zH} (hE : zE K G (none) r) : ∀ (n : Nat) (x1 : Int32) (h : zH), g_X12_fresh_66 t0 n x1 h = some r → zW K G 2 66 [(0, .ref (G.2.2.2 t0)), (1, .int x1)] [] h := by
  intro n
  induction n with
  | zero => intro x1 h hg; exact nomatch (show none = some r from hg)
  | succ n ih =>
    intro x1 h hg
    rw [g_X12_fresh_66] at hg
    refine z_iload_n (pc := 66) hK 1 dX12_fresh_66 rfl (z_bipush (pc := 67) hK dX12_fresh_67 zc_b49 (z_icmp_ge (pc := 69) hK 93 dX12_fresh_69 (by decide) (fun c_11 => ?_) (fun c_11 => ?_)))
    · rw [if_pos c_11] at hg
      exact z_vretE (pc := 93) hK hE hg dX12_fresh_93
    · rw [if_neg c_11] at hg
      obtain ⟨c_12, hg⟩ := zgu_some hg
      obtain ⟨c_13, hg⟩ := zgu_some hg
      obtain ⟨h_14, eh_14, hg⟩ := zlet_some hg
      exact z_aload_n (pc := 72) hK 0 dX12_fresh_72 rfl (z_getR (pc := 73) hK f_X12_105_11 ht0 dX12_fresh_73 (z_bipush (pc := 76) hK dX12_fresh_76 zc_b9 (z_iload_n (pc := 78) hK 1 dX12_fresh_78 rfl (z_iadd (pc := 79) hK dX12_fresh_79 (z_aload_n (pc := 80) hK 0 dX12_fresh_80 rfl (z_getR (pc := 81) hK f_X12_32_11 ht0 dX12_fresh_81 (z_iload_n (pc := 84) hK 1 dX12_fresh_84 rfl (z_iald (pc := 85) hK (zt_11_16 ht0) c_12 dX12_fresh_85 (z_iast (pc := 86) hK (zt_11_44 ht0) c_13 dX12_fresh_86 (z_nameH eh_14 (z_iinc (pc := 87) hK 1 (lv' := [(1, .int (x1 + 1)), (0, .ref (G.2.2.2 t0))]) dX12_fresh_87 rfl (zc_n1 _) (by decide) rfl (z_goto (pc := 90) hK 66 dX12_fresh_90 (by decide) (zsub (lv' := [(0, .ref (G.2.2.2 t0)), (1, .int (x1 + 1))]) [1, 0] rfl (ih (x1 + 1) h_14 hg))))))))))))))
set_option maxRecDepth 100000 in
set_option maxHeartbeats 4000000 in
theorem b_X12_fresh_39 {K : zK} {G : zG} (hK : zC K G cX12_fresh RX12 2 0 0 none) {t0 : Nat} (ht0 : zT t0 = (11, 0)) {r : zH} (hE : zE K G (none) r) : ∀ (n : Nat) (x1 : Int32) (h : zH), g_X12_fresh_39 t0 n x1 h = some r → zW K G 2 39 [(0, .ref (G.2.2.2 t0)), (1, .int x1)] [] h := by
  intro n
  induction n with
  | zero => intro x1 h hg; exact nomatch (show none = some r from hg)
  | succ n ih =>
    intro x1 h hg
    rw [g_X12_fresh_39] at hg
    obtain ⟨c_7, hg⟩ := zgu_some hg
    refine z_iload_n (pc := 39) hK 1 dX12_fresh_39 rfl (z_aload_n (pc := 40) hK 0 dX12_fresh_40 rfl (z_getR (pc := 41) hK f_X12_13_11 ht0 dX12_fresh_41 (z_iconst (pc := 44) hK dX12_fresh_44 zc_i0 (z_iald (pc := 45) hK (zt_11_10 ht0) c_7 dX12_fresh_45 (z_icmp_ge (pc := 46) hK 64 dX12_fresh_46 (by decide) (fun c_8 => ?_) (fun c_8 => ?_))))))
    · rw [if_pos c_8] at hg
      exact z_iconst (pc := 64) hK dX12_fresh_64 zc_i0 (z_istore_n (pc := 65) hK (lv' := [(1, .int 0), (0, .ref (G.2.2.2 t0))]) dX12_fresh_65 (by decide) rfl (zsub (lv' := [(0, .ref (G.2.2.2 t0)), (1, .int 0)]) [1, 0] rfl (b_X12_fresh_66 hK ht0 hE zfu 0 h hg)))
    · rw [if_neg c_8] at hg
      obtain ⟨c_9, hg⟩ := zgu_some hg
      obtain ⟨h_10, eh_10, hg⟩ := zlet_some hg
      exact z_aload_n (pc := 49) hK 0 dX12_fresh_49 rfl (z_getR (pc := 50) hK f_X12_105_11 ht0 dX12_fresh_50 (z_iconst (pc := 53) hK dX12_fresh_53 zc_i2 (z_iload_n (pc := 54) hK 1 dX12_fresh_54 rfl (z_iadd (pc := 55) hK dX12_fresh_55 (z_iconst (pc := 56) hK dX12_fresh_56 zc_i1 (z_iast (pc := 57) hK (zt_11_44 ht0) c_9 dX12_fresh_57 (z_nameH eh_10 (z_iinc (pc := 58) hK 1 (lv' := [(1, .int (x1 + 1)), (0, .ref (G.2.2.2 t0))]) dX12_fresh_58 rfl (zc_n1 _) (by decide) rfl (z_goto (pc := 61) hK 39 dX12_fresh_61 (by decide) (zsub (lv' := [(0, .ref (G.2.2.2 t0)), (1, .int (x1 + 1))]) [1, 0] rfl (ih (x1 + 1) h_10 hg)))))))))))
set_option maxRecDepth 100000 in
set_option maxHeartbeats 4000000 in
theorem b_X12_fresh_2 {K : zK} {G : zG} (hK : zC K G cX12_fresh RX12 2 0 0 none) {t0 : Nat} (ht0 : zT t0 = (11, 0)) {r : zH} (hE : zE K G (none) r) : ∀ (n : Nat) (x1 : Int32) (h : zH), g_X12_fresh_2 t0 n x1 h = some r → zW K G 2 2 [(0, .ref (G.2.2.2 t0)), (1, .int x1)] [] h := by
  intro n
  induction n with
  | zero => intro x1 h hg; exact nomatch (show none = some r from hg)
  | succ n ih =>
    intro x1 h hg
    rw [g_X12_fresh_2] at hg
    refine z_iload_n (pc := 2) hK 1 dX12_fresh_2 rfl (z_bipush (pc := 3) hK dX12_fresh_3 zc_b107 (z_icmp_ge (pc := 5) hK 21 dX12_fresh_5 (by decide) (fun c_1 => ?_) (fun c_1 => ?_)))
    · rw [if_pos c_1] at hg
      obtain ⟨c_2, hg⟩ := zgu_some hg
      obtain ⟨c_3, hg⟩ := zgu_some hg
      obtain ⟨h_4, eh_4, hg⟩ := zlet_some hg
      exact z_aload_n (pc := 21) hK 0 dX12_fresh_21 rfl (z_getR (pc := 22) hK f_X12_105_11 ht0 dX12_fresh_22 (z_iconst (pc := 25) hK dX12_fresh_25 zc_i1 (z_iconst (pc := 26) hK dX12_fresh_26 zc_i1 (z_aload_n (pc := 27) hK 0 dX12_fresh_27 rfl (z_getR (pc := 28) hK f_X12_13_11 ht0 dX12_fresh_28 (z_iconst (pc := 31) hK dX12_fresh_31 zc_i0 (z_iald (pc := 32) hK (zt_11_10 ht0) c_2 dX12_fresh_32 (z_ishl (pc := 33) hK dX12_fresh_33 (z_iconst (pc := 34) hK dX12_fresh_34 zc_i1 (z_isub (pc := 35) hK dX12_fresh_35 (z_iast (pc := 36) hK (zt_11_44 ht0) c_3 dX12_fresh_36 (z_nameH eh_4 (z_iconst (pc := 37) hK dX12_fresh_37 zc_i0 (z_istore_n (pc := 38) hK (lv' := [(1, .int 0), (0, .ref (G.2.2.2 t0))]) dX12_fresh_38 (by decide) rfl (zsub (lv' := [(0, .ref (G.2.2.2 t0)), (1, .int 0)]) [1, 0] rfl (b_X12_fresh_39 hK ht0 hE zfu 0 h_4 hg))))))))))))))))
    · rw [if_neg c_1] at hg
      obtain ⟨c_5, hg⟩ := zgu_some hg
      obtain ⟨h_6, eh_6, hg⟩ := zlet_some hg
      exact z_aload_n (pc := 8) hK 0 dX12_fresh_8 rfl (z_getR (pc := 9) hK f_X12_105_11 ht0 dX12_fresh_9 (z_iload_n (pc := 12) hK 1 dX12_fresh_12 rfl (z_iconst (pc := 13) hK dX12_fresh_13 zc_i0 (z_iast (pc := 14) hK (zt_11_44 ht0) c_5 dX12_fresh_14 (z_nameH eh_6 (z_iinc (pc := 15) hK 1 (lv' := [(1, .int (x1 + 1)), (0, .ref (G.2.2.2 t0))]) dX12_fresh_15 rfl (zc_n1 _) (by decide) rfl (z_goto (pc := 18) hK 2 dX12_fresh_18 (by decide) (zsub (lv' := [(0, .ref (G.2.2.2 t0)), (1, .int (x1 + 1))]) [1, 0] rfl (ih (x1 + 1) h_6 hg)))))))))
set_option maxRecDepth 100000 in
set_option maxHeartbeats 4000000 in
theorem b_X12_fresh {K : zK} {G : zG} (hK : zC K G cX12_fresh RX12 2 0 0 none) {h : zH} {t0 : Nat} (ht0 : zT t0 = (11, 0)) {r : zH} (hE : zE K G (none) r) (hg : g_X12_fresh h t0 = some r) : zW K G 2 0 [(0, .ref (G.2.2.2 t0))] [] h := by
  rw [g_X12_fresh] at hg
  exact z_iconst (pc := 0) hK dX12_fresh_0 zc_i0 (z_istore_n (pc := 1) hK (lv' := [(1, .int 0), (0, .ref (G.2.2.2 t0))]) dX12_fresh_1 (by decide) rfl (zsub (lv' := [(0, .ref (G.2.2.2 t0)), (1, .int 0)]) [1, 0] rfl (b_X12_fresh_2 hK ht0 hE zfu 0 h hg)))
theorem m_X12_fresh {l : Launch} {G : zG} (hG : zD G) {h : zH} {t0 : Nat} (ht0 : zT t0 = (11, 0)) {r : zH} (hg : g_X12_fresh h t0 = some r) : zM l G yX12_fresh cX12_fresh 2 none 0 0 [.ref (G.2.2.2 t0)] h (none) r :=
  zM_of hG pn_X12 (Nat.le_of_ble_eq_true rfl) (fun K _ hK hE => b_X12_fresh hK ht0 hE hg)
theorem dX12_republic_0 : decode cX12_republic 0 = .ok (.aload_n 0, 1) := by decide +kernel
theorem dX12_republic_1 : decode cX12_republic 1 = .ok (.iconst 0, 1) := by decide +kernel
theorem dX12_republic_2 : decode cX12_republic 2 = .ok (.putfield 126, 3) := by decide +kernel
theorem dX12_republic_5 : decode cX12_republic 5 = .ok (.aload_n 0, 1) := by decide +kernel
theorem dX12_republic_6 : decode cX12_republic 6 = .ok (.invokevirtual 328, 3) := by decide +kernel
theorem dX12_republic_9 : decode cX12_republic 9 = .ok (.ifCond .ne 8, 3) := by decide +kernel
theorem dX12_republic_12 : decode cX12_republic 12 = .ok (.aload_n 0, 1) := by decide +kernel
theorem dX12_republic_13 : decode cX12_republic 13 = .ok (.getfield 162, 3) := by decide +kernel
theorem dX12_republic_16 : decode cX12_republic 16 = .ok (.ireturn, 1) := by decide +kernel
theorem dX12_republic_17 : decode cX12_republic 17 = .ok (.aload_n 0, 1) := by decide +kernel
theorem dX12_republic_18 : decode cX12_republic 18 = .ok (.invokevirtual 331, 3) := by decide +kernel
theorem dX12_republic_21 : decode cX12_republic 21 = .ok (.aload_n 0, 1) := by decide +kernel
theorem dX12_republic_22 : decode cX12_republic 22 = .ok (.invokevirtual 123, 3) := by decide +kernel
theorem dX12_republic_25 : decode cX12_republic 25 = .ok (.aload_n 0, 1) := by decide +kernel
theorem dX12_republic_26 : decode cX12_republic 26 = .ok (.getfield 84, 3) := by decide +kernel
theorem dX12_republic_29 : decode cX12_republic 29 = .ok (.iconst 0, 1) := by decide +kernel
theorem dX12_republic_30 : decode cX12_republic 30 = .ok (.iconst 0, 1) := by decide +kernel
theorem dX12_republic_31 : decode cX12_republic 31 = .ok (.iastore, 1) := by decide +kernel
theorem dX12_republic_32 : decode cX12_republic 32 = .ok (.aload_n 0, 1) := by decide +kernel
theorem dX12_republic_33 : decode cX12_republic 33 = .ok (.getfield 96, 3) := by decide +kernel
theorem dX12_republic_36 : decode cX12_republic 36 = .ok (.iconst 0, 1) := by decide +kernel
theorem dX12_republic_37 : decode cX12_republic 37 = .ok (.iconst 0, 1) := by decide +kernel
theorem dX12_republic_38 : decode cX12_republic 38 = .ok (.iastore, 1) := by decide +kernel
theorem dX12_republic_39 : decode cX12_republic 39 = .ok (.aload_n 0, 1) := by decide +kernel
theorem dX12_republic_40 : decode cX12_republic 40 = .ok (.iconst 0, 1) := by decide +kernel
theorem dX12_republic_41 : decode cX12_republic 41 = .ok (.putfield 334, 3) := by decide +kernel
theorem dX12_republic_44 : decode cX12_republic 44 = .ok (.iconst 0, 1) := by decide +kernel
theorem dX12_republic_45 : decode cX12_republic 45 = .ok (.istore_n 1, 1) := by decide +kernel
theorem dX12_republic_46 : decode cX12_republic 46 = .ok (.iload_n 1, 1) := by decide +kernel
theorem dX12_republic_47 : decode cX12_republic 47 = .ok (.iconst 4, 1) := by decide +kernel
theorem dX12_republic_48 : decode cX12_republic 48 = .ok (.if_icmp .ge 16, 3) := by decide +kernel
theorem dX12_republic_51 : decode cX12_republic 51 = .ok (.aload_n 0, 1) := by decide +kernel
theorem dX12_republic_52 : decode cX12_republic 52 = .ok (.getfield 117, 3) := by decide +kernel
theorem dX12_republic_55 : decode cX12_republic 55 = .ok (.iload_n 1, 1) := by decide +kernel
theorem dX12_republic_56 : decode cX12_republic 56 = .ok (.iconst 0, 1) := by decide +kernel
theorem dX12_republic_57 : decode cX12_republic 57 = .ok (.bastore, 1) := by decide +kernel
theorem dX12_republic_58 : decode cX12_republic 58 = .ok (.iinc 1 1, 3) := by decide +kernel
theorem dX12_republic_61 : decode cX12_republic 61 = .ok (.goto (-15), 3) := by decide +kernel
theorem dX12_republic_64 : decode cX12_republic 64 = .ok (.iconst 0, 1) := by decide +kernel
theorem dX12_republic_65 : decode cX12_republic 65 = .ok (.ireturn, 1) := by decide +kernel
def g_X12_republic_46 (t0 : Nat)  : Nat → Int32 → zH → Option (Int32 × zH)
  | 0, _, _ => none
  | n + 1, x1, h => if 4 ≤ x1 then (some (0, h)) else (zgu (zin x1 4) <| zlet (zpi h (zR t0 48) (zx x1) (vp_nar .boolean 0)) fun h_13 => g_X12_republic_46 t0 n (x1 + 1) h_13)
def g_X12_republic (h : zH) (t0 : Nat) : Option (Int32 × zH) := zlet (zpi h t0 0 0) fun h_1 => (g_X12_readsAll h_1 t0).bind fun v_2 => if (zb v_2.1) = 0 then (some (v_2.2.1 t0 9, v_2.2)) else ((g_X12_lays v_2.2 t0).bind fun v_4 => (g_X12_fresh v_4 t0).bind fun v_5 => zgu (zin 0 6) <| zlet (zpi v_5 (zR t0 37) (zx 0) 0) fun h_7 => zgu (zin 0 5) <| zlet (zpi h_7 (zR t0 41) (zx 0) 0) fun h_9 => zlet (zpi h_9 t0 49 0) fun h_10 => g_X12_republic_46 t0 zfu 0 h_10)
set_option maxRecDepth 100000 in
set_option maxHeartbeats 4000000 in
theorem b_X12_republic_46 {K : zK} {G : zG} (hK : zC K G cX12_republic RX12 2 6 132 (some .int)) {t0 : Nat} (ht0 : zT t0 = (11, 0)) {r : Int32 × zH} (hE : zE K G (some (.int r.1)) r.2) : ∀ (n : Nat) (x1 : Int32) (h : zH), g_X12_republic_46 t0 n x1 h = some r → zW K G 2 46 [(0, .ref (G.2.2.2 t0)), (1, .int x1)] [] h := by
  intro n
  induction n with
  | zero => intro x1 h hg; exact nomatch (show none = some r from hg)
  | succ n ih =>
    intro x1 h hg
    rw [g_X12_republic_46] at hg
    refine z_iload_n (pc := 46) hK 1 dX12_republic_46 rfl (z_iconst (pc := 47) hK dX12_republic_47 zc_i4 (z_icmp_ge (pc := 48) hK 64 dX12_republic_48 (by decide) (fun c_11 => ?_) (fun c_11 => ?_)))
    · rw [if_pos c_11] at hg
      exact z_iconst (pc := 64) hK dX12_republic_64 zc_i0 (z_iretE (pc := 65) hK hE hg dX12_republic_65)
    · rw [if_neg c_11] at hg
      obtain ⟨c_12, hg⟩ := zgu_some hg
      obtain ⟨h_13, eh_13, hg⟩ := zlet_some hg
      exact z_aload_n (pc := 51) hK 0 dX12_republic_51 rfl (z_getR (pc := 52) hK f_X12_117_11 ht0 dX12_republic_52 (z_iload_n (pc := 55) hK 1 dX12_republic_55 rfl (z_iconst (pc := 56) hK dX12_republic_56 zc_i0 (z_zast (pc := 57) hK (zt_11_48 ht0) c_12 dX12_republic_57 (z_nameH eh_13 (z_iinc (pc := 58) hK 1 (lv' := [(1, .int (x1 + 1)), (0, .ref (G.2.2.2 t0))]) dX12_republic_58 rfl (zc_n1 _) (by decide) rfl (z_goto (pc := 61) hK 46 dX12_republic_61 (by decide) (zsub (lv' := [(0, .ref (G.2.2.2 t0)), (1, .int (x1 + 1))]) [1, 0] rfl (ih (x1 + 1) h_13 hg)))))))))
set_option maxRecDepth 100000 in
set_option maxHeartbeats 4000000 in
theorem b_X12_republic {K : zK} {G : zG} (hK : zC K G cX12_republic RX12 2 6 132 (some .int)) {h : zH} {t0 : Nat} (ht0 : zT t0 = (11, 0)) {r : Int32 × zH} (hE : zE K G (some (.int r.1)) r.2) (hg : g_X12_republic h t0 = some r) : zW K G 2 0 [(0, .ref (G.2.2.2 t0))] [] h := by
  rw [g_X12_republic] at hg
  obtain ⟨h_1, eh_1, hg⟩ := zlet_some hg
  obtain ⟨v_2, qv_2, hg⟩ := zbind_some hg
  refine z_aload_n (pc := 0) hK 0 dX12_republic_0 rfl (z_iconst (pc := 1) hK dX12_republic_1 zc_i0 (z_putI (pc := 2) hK f_X12_126_11 fp_11_0 ht0 dX12_republic_2 (z_nameH eh_1 (z_aload_n (pc := 5) hK 0 dX12_republic_5 rfl (z_callVi (pc := 6) hK [] (m_X12_readsAll (zC_D hK) ht0 qv_2) sv_X12_readsAll q_1466 ht0 rfl [] rfl (Nat.le_of_ble_eq_true rfl) ⟨by decide, by decide⟩ dX12_republic_6 (z_if_ne (pc := 9) hK 17 dX12_republic_9 (by decide) (fun c_3 => ?_) (fun c_3 => ?_)))))))
  · rw [if_neg c_3] at hg
    obtain ⟨v_4, qv_4, hg⟩ := zbind_some hg
    obtain ⟨v_5, qv_5, hg⟩ := zbind_some hg
    obtain ⟨c_6, hg⟩ := zgu_some hg
    obtain ⟨h_7, eh_7, hg⟩ := zlet_some hg
    obtain ⟨c_8, hg⟩ := zgu_some hg
    obtain ⟨h_9, eh_9, hg⟩ := zlet_some hg
    obtain ⟨h_10, eh_10, hg⟩ := zlet_some hg
    exact z_aload_n (pc := 17) hK 0 dX12_republic_17 rfl (z_callVv (pc := 18) hK [] (m_X12_lays (zC_D hK) ht0 qv_4) sv_X12_lays q_1597 ht0 rfl [] rfl (Nat.le_of_ble_eq_true rfl) ⟨by decide, by decide⟩ dX12_republic_18 (z_aload_n (pc := 21) hK 0 dX12_republic_21 rfl (z_callVv (pc := 22) hK [] (m_X12_fresh (zC_D hK) ht0 qv_5) sv_X12_fresh q_1291 ht0 rfl [] rfl (Nat.le_of_ble_eq_true rfl) ⟨by decide, by decide⟩ dX12_republic_22 (z_aload_n (pc := 25) hK 0 dX12_republic_25 rfl (z_getR (pc := 26) hK f_X12_84_11 ht0 dX12_republic_26 (z_iconst (pc := 29) hK dX12_republic_29 zc_i0 (z_iconst (pc := 30) hK dX12_republic_30 zc_i0 (z_iast (pc := 31) hK (zt_11_37 ht0) c_6 dX12_republic_31 (z_nameH eh_7 (z_aload_n (pc := 32) hK 0 dX12_republic_32 rfl (z_getR (pc := 33) hK f_X12_96_11 ht0 dX12_republic_33 (z_iconst (pc := 36) hK dX12_republic_36 zc_i0 (z_iconst (pc := 37) hK dX12_republic_37 zc_i0 (z_iast (pc := 38) hK (zt_11_41 ht0) c_8 dX12_republic_38 (z_nameH eh_9 (z_aload_n (pc := 39) hK 0 dX12_republic_39 rfl (z_iconst (pc := 40) hK dX12_republic_40 zc_i0 (z_putI (pc := 41) hK f_X12_334_11 fp_11_49 ht0 dX12_republic_41 (z_nameH eh_10 (z_iconst (pc := 44) hK dX12_republic_44 zc_i0 (z_istore_n (pc := 45) hK (lv' := [(1, .int 0), (0, .ref (G.2.2.2 t0))]) dX12_republic_45 (by decide) rfl (zsub (lv' := [(0, .ref (G.2.2.2 t0)), (1, .int 0)]) [1, 0] rfl (b_X12_republic_46 hK ht0 hE zfu 0 h_10 hg)))))))))))))))))))))))
  · rw [if_pos c_3] at hg
    exact z_aload_n (pc := 12) hK 0 dX12_republic_12 rfl (z_getI (pc := 13) hK f_X12_162_11 ht0 dX12_republic_13 (z_iretE (pc := 16) hK hE hg dX12_republic_16))
theorem m_X12_republic {l : Launch} {G : zG} (hG : zD G) {h : zH} {t0 : Nat} (ht0 : zT t0 = (11, 0)) {r : Int32 × zH} (hg : g_X12_republic h t0 = some r) : zM l G yX12_republic cX12_republic 2 (some .int) 6 132 [.ref (G.2.2.2 t0)] h (some (.int r.1)) r.2 :=
  zM_of hG pn_X12 (Nat.le_of_ble_eq_true rfl) (fun K _ hK hE => b_X12_republic hK ht0 hE hg)
theorem dX12_years_0 : decode cX12_years 0 = .ok (.aload_n 0, 1) := by decide +kernel
theorem dX12_years_1 : decode cX12_years 1 = .ok (.iconst 0, 1) := by decide +kernel
theorem dX12_years_2 : decode cX12_years 2 = .ok (.putfield 126, 3) := by decide +kernel
theorem dX12_years_5 : decode cX12_years 5 = .ok (.aload_n 0, 1) := by decide +kernel
theorem dX12_years_6 : decode cX12_years 6 = .ok (.getfield 84, 3) := by decide +kernel
theorem dX12_years_9 : decode cX12_years 9 = .ok (.iconst 5, 1) := by decide +kernel
theorem dX12_years_10 : decode cX12_years 10 = .ok (.iconst 0, 1) := by decide +kernel
theorem dX12_years_11 : decode cX12_years 11 = .ok (.iastore, 1) := by decide +kernel
theorem dX12_years_12 : decode cX12_years 12 = .ok (.aload_n 0, 1) := by decide +kernel
theorem dX12_years_13 : decode cX12_years 13 = .ok (.invokevirtual 302, 3) := by decide +kernel
theorem dX12_years_16 : decode cX12_years 16 = .ok (.aload_n 0, 1) := by decide +kernel
theorem dX12_years_17 : decode cX12_years 17 = .ok (.getfield 151, 3) := by decide +kernel
theorem dX12_years_20 : decode cX12_years 20 = .ok (.ifCond .eq 15, 3) := by decide +kernel
theorem dX12_years_23 : decode cX12_years 23 = .ok (.aload_n 0, 1) := by decide +kernel
theorem dX12_years_24 : decode cX12_years 24 = .ok (.invokevirtual 337, 3) := by decide +kernel
theorem dX12_years_27 : decode cX12_years 27 = .ok (.ifCond .ne (-11), 3) := by decide +kernel
theorem dX12_years_30 : decode cX12_years 30 = .ok (.aload_n 0, 1) := by decide +kernel
theorem dX12_years_31 : decode cX12_years 31 = .ok (.getfield 162, 3) := by decide +kernel
theorem dX12_years_34 : decode cX12_years 34 = .ok (.ireturn, 1) := by decide +kernel
theorem dX12_years_35 : decode cX12_years 35 = .ok (.aload_n 0, 1) := by decide +kernel
theorem dX12_years_36 : decode cX12_years 36 = .ok (.iconst 5, 1) := by decide +kernel
theorem dX12_years_37 : decode cX12_years 37 = .ok (.iconst 0, 1) := by decide +kernel
theorem dX12_years_38 : decode cX12_years 38 = .ok (.invokevirtual 340, 3) := by decide +kernel
theorem dX12_years_41 : decode cX12_years 41 = .ok (.iconst 0, 1) := by decide +kernel
theorem dX12_years_42 : decode cX12_years 42 = .ok (.ireturn, 1) := by decide +kernel
def g_X12_years_16 (t0 : Nat)  : Nat → zH → Option (Int32 × zH)
  | 0, _ => none
  | n + 1, h => if (h.1 t0 6) = 0 then ((g_X12_laysLines h t0 5 0).bind fun v_6 => some (0, v_6)) else ((g_X12_readsLine h t0).bind fun v_7 => if (zb v_7.1) = 0 then (some (v_7.2.1 t0 9, v_7.2)) else (g_X12_years_16 t0 n v_7.2))
def g_X12_years (h : zH) (t0 : Nat) : Option (Int32 × zH) := zlet (zpi h t0 0 0) fun h_1 => zgu (zin 5 6) <| zlet (zpi h_1 (zR t0 37) (zx 5) 0) fun h_3 => (g_X12_begins h_3 t0).bind fun v_4 => g_X12_years_16 t0 zfu v_4
set_option maxRecDepth 100000 in
set_option maxHeartbeats 4000000 in
theorem b_X12_years_16 {K : zK} {G : zG} (hK : zC K G cX12_years RX12 1 4 86 (some .int)) {t0 : Nat} (ht0 : zT t0 = (11, 0)) {r : Int32 × zH} (hE : zE K G (some (.int r.1)) r.2) : ∀ (n : Nat) (h : zH), g_X12_years_16 t0 n h = some r → zW K G 1 16 [(0, .ref (G.2.2.2 t0))] [] h := by
  intro n
  induction n with
  | zero => intro h hg; exact nomatch (show none = some r from hg)
  | succ n ih =>
    intro h hg
    rw [g_X12_years_16] at hg
    refine z_aload_n (pc := 16) hK 0 dX12_years_16 rfl (z_getI (pc := 17) hK f_X12_151_11 ht0 dX12_years_17 (z_if_eq (pc := 20) hK 35 dX12_years_20 (by decide) (fun c_5 => ?_) (fun c_5 => ?_)))
    · rw [if_pos c_5] at hg
      obtain ⟨v_6, qv_6, hg⟩ := zbind_some hg
      exact z_aload_n (pc := 35) hK 0 dX12_years_35 rfl (z_iconst (pc := 36) hK dX12_years_36 zc_i5 (z_iconst (pc := 37) hK dX12_years_37 zc_i0 (z_callVv (pc := 38) hK [.int 5, .int 0] (m_X12_laysLines (zC_D hK) ht0 qv_6) sv_X12_laysLines q_1612 ht0 rfl [] rfl (Nat.le_of_ble_eq_true rfl) ⟨by decide, by decide⟩ dX12_years_38 (z_iconst (pc := 41) hK dX12_years_41 zc_i0 (z_iretE (pc := 42) hK hE hg dX12_years_42)))))
    · rw [if_neg c_5] at hg
      obtain ⟨v_7, qv_7, hg⟩ := zbind_some hg
      refine z_aload_n (pc := 23) hK 0 dX12_years_23 rfl (z_callVi (pc := 24) hK [] (m_X12_readsLine (zC_D hK) ht0 qv_7) sv_X12_readsLine q_1608 ht0 rfl [] rfl (Nat.le_of_ble_eq_true rfl) ⟨by decide, by decide⟩ dX12_years_24 (z_if_ne (pc := 27) hK 16 dX12_years_27 (by decide) (fun c_8 => ?_) (fun c_8 => ?_)))
      · rw [if_neg c_8] at hg
        exact zsub (lv' := [(0, .ref (G.2.2.2 t0))]) [0] rfl (ih v_7.2 hg)
      · rw [if_pos c_8] at hg
        exact z_aload_n (pc := 30) hK 0 dX12_years_30 rfl (z_getI (pc := 31) hK f_X12_162_11 ht0 dX12_years_31 (z_iretE (pc := 34) hK hE hg dX12_years_34))
set_option maxRecDepth 100000 in
set_option maxHeartbeats 4000000 in
theorem b_X12_years {K : zK} {G : zG} (hK : zC K G cX12_years RX12 1 4 86 (some .int)) {h : zH} {t0 : Nat} (ht0 : zT t0 = (11, 0)) {r : Int32 × zH} (hE : zE K G (some (.int r.1)) r.2) (hg : g_X12_years h t0 = some r) : zW K G 1 0 [(0, .ref (G.2.2.2 t0))] [] h := by
  rw [g_X12_years] at hg
  obtain ⟨h_1, eh_1, hg⟩ := zlet_some hg
  obtain ⟨c_2, hg⟩ := zgu_some hg
  obtain ⟨h_3, eh_3, hg⟩ := zlet_some hg
  obtain ⟨v_4, qv_4, hg⟩ := zbind_some hg
  exact z_aload_n (pc := 0) hK 0 dX12_years_0 rfl (z_iconst (pc := 1) hK dX12_years_1 zc_i0 (z_putI (pc := 2) hK f_X12_126_11 fp_11_0 ht0 dX12_years_2 (z_nameH eh_1 (z_aload_n (pc := 5) hK 0 dX12_years_5 rfl (z_getR (pc := 6) hK f_X12_84_11 ht0 dX12_years_6 (z_iconst (pc := 9) hK dX12_years_9 zc_i5 (z_iconst (pc := 10) hK dX12_years_10 zc_i0 (z_iast (pc := 11) hK (zt_11_37 ht0) c_2 dX12_years_11 (z_nameH eh_3 (z_aload_n (pc := 12) hK 0 dX12_years_12 rfl (z_callVv (pc := 13) hK [] (m_X12_begins (zC_D hK) ht0 qv_4) sv_X12_begins q_1470 ht0 rfl [] rfl (Nat.le_of_ble_eq_true rfl) ⟨by decide, by decide⟩ dX12_years_13 (zsub (lv' := [(0, .ref (G.2.2.2 t0))]) [0] rfl (b_X12_years_16 hK ht0 hE zfu v_4 hg)))))))))))))
theorem m_X12_years {l : Launch} {G : zG} (hG : zD G) {h : zH} {t0 : Nat} (ht0 : zT t0 = (11, 0)) {r : Int32 × zH} (hg : g_X12_years h t0 = some r) : zM l G yX12_years cX12_years 1 (some .int) 4 86 [.ref (G.2.2.2 t0)] h (some (.int r.1)) r.2 :=
  zM_of hG pn_X12 (Nat.le_of_ble_eq_true rfl) (fun K _ hK hE => b_X12_years hK ht0 hE hg)
theorem dX12_isPerson_0 : decode cX12_isPerson 0 = .ok (.iload_n 1, 1) := by decide +kernel
theorem dX12_isPerson_1 : decode cX12_isPerson 1 = .ok (.ifCond .lt 17, 3) := by decide +kernel
theorem dX12_isPerson_4 : decode cX12_isPerson 4 = .ok (.iload_n 1, 1) := by decide +kernel
theorem dX12_isPerson_5 : decode cX12_isPerson 5 = .ok (.aload_n 0, 1) := by decide +kernel
theorem dX12_isPerson_6 : decode cX12_isPerson 6 = .ok (.getfield 13, 3) := by decide +kernel
theorem dX12_isPerson_9 : decode cX12_isPerson 9 = .ok (.iconst 0, 1) := by decide +kernel
theorem dX12_isPerson_10 : decode cX12_isPerson 10 = .ok (.iaload, 1) := by decide +kernel
theorem dX12_isPerson_11 : decode cX12_isPerson 11 = .ok (.if_icmp .ge 7, 3) := by decide +kernel
theorem dX12_isPerson_14 : decode cX12_isPerson 14 = .ok (.iconst 1, 1) := by decide +kernel
theorem dX12_isPerson_15 : decode cX12_isPerson 15 = .ok (.goto 4, 3) := by decide +kernel
theorem dX12_isPerson_18 : decode cX12_isPerson 18 = .ok (.iconst 0, 1) := by decide +kernel
theorem dX12_isPerson_19 : decode cX12_isPerson 19 = .ok (.ireturn, 1) := by decide +kernel
def g_X12_isPerson (h : zH) (t0 : Nat) (x1 : Int32) : Option Bool := if x1 < 0 then (some false) else (zgu (zin 0 8) <| if (h.1 (zR t0 10) (zx 0)) ≤ x1 then (some false) else (some true))
set_option maxRecDepth 100000 in
set_option maxHeartbeats 4000000 in
theorem b_X12_isPerson {K : zK} {G : zG} (hK : zC K G cX12_isPerson RX12 2 0 0 (some .boolean)) {h : zH} {t0 : Nat} {x1 : Int32} (ht0 : zT t0 = (11, 0)) {r : Bool} (hE : zE K G (some (.int (zb r))) h) (hg : g_X12_isPerson h t0 x1 = some r) : zW K G 2 0 [(0, .ref (G.2.2.2 t0)), (1, .int x1)] [] h := by
  rw [g_X12_isPerson] at hg
  refine z_iload_n (pc := 0) hK 1 dX12_isPerson_0 rfl (z_if_lt (pc := 1) hK 18 dX12_isPerson_1 (by decide) (fun c_1 => ?_) (fun c_1 => ?_))
  · rw [if_pos c_1] at hg
    exact z_iconst (pc := 18) hK dX12_isPerson_18 zc_i0 (z_zretP (pc := 19) hK rfl hE hg dX12_isPerson_19)
  · rw [if_neg c_1] at hg
    obtain ⟨c_2, hg⟩ := zgu_some hg
    refine z_iload_n (pc := 4) hK 1 dX12_isPerson_4 rfl (z_aload_n (pc := 5) hK 0 dX12_isPerson_5 rfl (z_getR (pc := 6) hK f_X12_13_11 ht0 dX12_isPerson_6 (z_iconst (pc := 9) hK dX12_isPerson_9 zc_i0 (z_iald (pc := 10) hK (zt_11_10 ht0) c_2 dX12_isPerson_10 (z_icmp_ge (pc := 11) hK 18 dX12_isPerson_11 (by decide) (fun c_3 => ?_) (fun c_3 => ?_))))))
    · rw [if_pos c_3] at hg
      exact z_iconst (pc := 18) hK dX12_isPerson_18 zc_i0 (z_zretP (pc := 19) hK rfl hE hg dX12_isPerson_19)
    · rw [if_neg c_3] at hg
      exact z_iconst (pc := 14) hK dX12_isPerson_14 zc_i1 (z_goto (pc := 15) hK 19 dX12_isPerson_15 (by decide) (z_zretP (pc := 19) hK rfl hE hg dX12_isPerson_19))
theorem m_X12_isPerson {l : Launch} {G : zG} (hG : zD G) {h : zH} {t0 : Nat} {x1 : Int32} (ht0 : zT t0 = (11, 0)) {r : Bool} (hg : g_X12_isPerson h t0 x1 = some r) : zM l G yX12_isPerson cX12_isPerson 2 (some .boolean) 0 0 [.ref (G.2.2.2 t0), .int x1] h (some (.int (zb r))) h :=
  zM_of hG pn_X12 (Nat.le_of_ble_eq_true rfl) (fun K _ hK hE => b_X12_isPerson hK ht0 hE hg)
theorem dX12_isAlive_0 : decode cX12_isAlive 0 = .ok (.aload_n 0, 1) := by decide +kernel
theorem dX12_isAlive_1 : decode cX12_isAlive 1 = .ok (.getfield 105, 3) := by decide +kernel
theorem dX12_isAlive_4 : decode cX12_isAlive 4 = .ok (.iconst 1, 1) := by decide +kernel
theorem dX12_isAlive_5 : decode cX12_isAlive 5 = .ok (.iaload, 1) := by decide +kernel
theorem dX12_isAlive_6 : decode cX12_isAlive 6 = .ok (.iload_n 1, 1) := by decide +kernel
theorem dX12_isAlive_7 : decode cX12_isAlive 7 = .ok (.ishr, 1) := by decide +kernel
theorem dX12_isAlive_8 : decode cX12_isAlive 8 = .ok (.iconst 1, 1) := by decide +kernel
theorem dX12_isAlive_9 : decode cX12_isAlive 9 = .ok (.iand, 1) := by decide +kernel
theorem dX12_isAlive_10 : decode cX12_isAlive 10 = .ok (.iconst 1, 1) := by decide +kernel
theorem dX12_isAlive_11 : decode cX12_isAlive 11 = .ok (.if_icmp .ne 7, 3) := by decide +kernel
theorem dX12_isAlive_14 : decode cX12_isAlive 14 = .ok (.iconst 1, 1) := by decide +kernel
theorem dX12_isAlive_15 : decode cX12_isAlive 15 = .ok (.goto 4, 3) := by decide +kernel
theorem dX12_isAlive_18 : decode cX12_isAlive 18 = .ok (.iconst 0, 1) := by decide +kernel
theorem dX12_isAlive_19 : decode cX12_isAlive 19 = .ok (.ireturn, 1) := by decide +kernel
def g_X12_isAlive (h : zH) (t0 : Nat) (x1 : Int32) : Option Bool := zgu (zin 1 107) <| if (((h.1 (zR t0 44) (zx 1)) >>> (x1 &&& 31)) &&& 1) = 1 then (some true) else (some false)
set_option maxRecDepth 100000 in
set_option maxHeartbeats 4000000 in
theorem b_X12_isAlive {K : zK} {G : zG} (hK : zC K G cX12_isAlive RX12 2 0 0 (some .boolean)) {h : zH} {t0 : Nat} {x1 : Int32} (ht0 : zT t0 = (11, 0)) {r : Bool} (hE : zE K G (some (.int (zb r))) h) (hg : g_X12_isAlive h t0 x1 = some r) : zW K G 2 0 [(0, .ref (G.2.2.2 t0)), (1, .int x1)] [] h := by
  rw [g_X12_isAlive] at hg
  obtain ⟨c_1, hg⟩ := zgu_some hg
  refine z_aload_n (pc := 0) hK 0 dX12_isAlive_0 rfl (z_getR (pc := 1) hK f_X12_105_11 ht0 dX12_isAlive_1 (z_iconst (pc := 4) hK dX12_isAlive_4 zc_i1 (z_iald (pc := 5) hK (zt_11_44 ht0) c_1 dX12_isAlive_5 (z_iload_n (pc := 6) hK 1 dX12_isAlive_6 rfl (z_ishr (pc := 7) hK dX12_isAlive_7 (z_iconst (pc := 8) hK dX12_isAlive_8 zc_i1 (z_iand (pc := 9) hK dX12_isAlive_9 (z_iconst (pc := 10) hK dX12_isAlive_10 zc_i1 (z_icmp_ne (pc := 11) hK 18 dX12_isAlive_11 (by decide) (fun c_2 => ?_) (fun c_2 => ?_))))))))))
  · rw [if_neg c_2] at hg
    exact z_iconst (pc := 18) hK dX12_isAlive_18 zc_i0 (z_zretP (pc := 19) hK rfl hE hg dX12_isAlive_19)
  · rw [if_pos c_2] at hg
    exact z_iconst (pc := 14) hK dX12_isAlive_14 zc_i1 (z_goto (pc := 15) hK 19 dX12_isAlive_15 (by decide) (z_zretP (pc := 19) hK rfl hE hg dX12_isAlive_19))
theorem m_X12_isAlive {l : Launch} {G : zG} (hG : zD G) {h : zH} {t0 : Nat} {x1 : Int32} (ht0 : zT t0 = (11, 0)) {r : Bool} (hg : g_X12_isAlive h t0 x1 = some r) : zM l G yX12_isAlive cX12_isAlive 2 (some .boolean) 0 0 [.ref (G.2.2.2 t0), .int x1] h (some (.int (zb r))) h :=
  zM_of hG pn_X12 (Nat.le_of_ble_eq_true rfl) (fun K _ hK hE => b_X12_isAlive hK ht0 hE hg)
theorem dX12_areTwo_0 : decode cX12_areTwo 0 = .ok (.aload_n 0, 1) := by decide +kernel
theorem dX12_areTwo_1 : decode cX12_areTwo 1 = .ok (.iload_n 1, 1) := by decide +kernel
theorem dX12_areTwo_2 : decode cX12_areTwo 2 = .ok (.invokevirtual 344, 3) := by decide +kernel
theorem dX12_areTwo_5 : decode cX12_areTwo 5 = .ok (.ifCond .eq 20, 3) := by decide +kernel
theorem dX12_areTwo_8 : decode cX12_areTwo 8 = .ok (.aload_n 0, 1) := by decide +kernel
theorem dX12_areTwo_9 : decode cX12_areTwo 9 = .ok (.iload_n 2, 1) := by decide +kernel
theorem dX12_areTwo_10 : decode cX12_areTwo 10 = .ok (.invokevirtual 344, 3) := by decide +kernel
theorem dX12_areTwo_13 : decode cX12_areTwo 13 = .ok (.ifCond .eq 12, 3) := by decide +kernel
theorem dX12_areTwo_16 : decode cX12_areTwo 16 = .ok (.iload_n 1, 1) := by decide +kernel
theorem dX12_areTwo_17 : decode cX12_areTwo 17 = .ok (.iload_n 2, 1) := by decide +kernel
theorem dX12_areTwo_18 : decode cX12_areTwo 18 = .ok (.if_icmp .eq 7, 3) := by decide +kernel
theorem dX12_areTwo_21 : decode cX12_areTwo 21 = .ok (.iconst 1, 1) := by decide +kernel
theorem dX12_areTwo_22 : decode cX12_areTwo 22 = .ok (.goto 4, 3) := by decide +kernel
theorem dX12_areTwo_25 : decode cX12_areTwo 25 = .ok (.iconst 0, 1) := by decide +kernel
theorem dX12_areTwo_26 : decode cX12_areTwo 26 = .ok (.ireturn, 1) := by decide +kernel
def g_X12_areTwo (h : zH) (t0 : Nat) (x1 : Int32) (x2 : Int32) : Option Bool := (g_X12_isPerson h t0 x1).bind fun v_1 => if (zb v_1) = 0 then (some false) else ((g_X12_isPerson h t0 x2).bind fun v_3 => if (zb v_3) = 0 then (some false) else (if x1 = x2 then (some false) else (some true)))
set_option maxRecDepth 100000 in
set_option maxHeartbeats 4000000 in
theorem b_X12_areTwo {K : zK} {G : zG} (hK : zC K G cX12_areTwo RX12 3 1 21 (some .boolean)) {h : zH} {t0 : Nat} {x1 : Int32} {x2 : Int32} (ht0 : zT t0 = (11, 0)) {r : Bool} (hE : zE K G (some (.int (zb r))) h) (hg : g_X12_areTwo h t0 x1 x2 = some r) : zW K G 3 0 [(0, .ref (G.2.2.2 t0)), (1, .int x1), (2, .int x2)] [] h := by
  rw [g_X12_areTwo] at hg
  obtain ⟨v_1, qv_1, hg⟩ := zbind_some hg
  refine z_aload_n (pc := 0) hK 0 dX12_areTwo_0 rfl (z_iload_n (pc := 1) hK 1 dX12_areTwo_1 rfl (z_callVi (pc := 2) hK [.int x1] (m_X12_isPerson (zC_D hK) ht0 qv_1) sv_X12_isPerson q_1620 ht0 rfl [] rfl (Nat.le_of_ble_eq_true rfl) ⟨by decide, by decide⟩ dX12_areTwo_2 (z_if_eq (pc := 5) hK 25 dX12_areTwo_5 (by decide) (fun c_2 => ?_) (fun c_2 => ?_))))
  · rw [if_pos c_2] at hg
    exact z_iconst (pc := 25) hK dX12_areTwo_25 zc_i0 (z_zretP (pc := 26) hK rfl hE hg dX12_areTwo_26)
  · rw [if_neg c_2] at hg
    obtain ⟨v_3, qv_3, hg⟩ := zbind_some hg
    refine z_aload_n (pc := 8) hK 0 dX12_areTwo_8 rfl (z_iload_n (pc := 9) hK 2 dX12_areTwo_9 rfl (z_callVi (pc := 10) hK [.int x2] (m_X12_isPerson (zC_D hK) ht0 qv_3) sv_X12_isPerson q_1620 ht0 rfl [] rfl (Nat.le_of_ble_eq_true rfl) ⟨by decide, by decide⟩ dX12_areTwo_10 (z_if_eq (pc := 13) hK 25 dX12_areTwo_13 (by decide) (fun c_4 => ?_) (fun c_4 => ?_))))
    · rw [if_pos c_4] at hg
      exact z_iconst (pc := 25) hK dX12_areTwo_25 zc_i0 (z_zretP (pc := 26) hK rfl hE hg dX12_areTwo_26)
    · rw [if_neg c_4] at hg
      refine z_iload_n (pc := 16) hK 1 dX12_areTwo_16 rfl (z_iload_n (pc := 17) hK 2 dX12_areTwo_17 rfl (z_icmp_eq (pc := 18) hK 25 dX12_areTwo_18 (by decide) (fun c_5 => ?_) (fun c_5 => ?_)))
      · rw [if_pos c_5] at hg
        exact z_iconst (pc := 25) hK dX12_areTwo_25 zc_i0 (z_zretP (pc := 26) hK rfl hE hg dX12_areTwo_26)
      · rw [if_neg c_5] at hg
        exact z_iconst (pc := 21) hK dX12_areTwo_21 zc_i1 (z_goto (pc := 22) hK 26 dX12_areTwo_22 (by decide) (z_zretP (pc := 26) hK rfl hE hg dX12_areTwo_26))
theorem m_X12_areTwo {l : Launch} {G : zG} (hG : zD G) {h : zH} {t0 : Nat} {x1 : Int32} {x2 : Int32} (ht0 : zT t0 = (11, 0)) {r : Bool} (hg : g_X12_areTwo h t0 x1 x2 = some r) : zM l G yX12_areTwo cX12_areTwo 3 (some .boolean) 1 21 [.ref (G.2.2.2 t0), .int x1, .int x2] h (some (.int (zb r))) h :=
  zM_of hG pn_X12 (Nat.le_of_ble_eq_true rfl) (fun K _ hK hE => b_X12_areTwo hK ht0 hE hg)
