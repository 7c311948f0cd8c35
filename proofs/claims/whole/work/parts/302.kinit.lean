abbrev eI (G : zG) (n : Nat) : va_E := .inl (G.2.2.1.1 20, n, .inl (fun _ => 0))
abbrev eL (G : zG) (n : Nat) : va_E := .inl (G.2.2.1.1 21, n, .inr (.inl (fun _ => 0)))
abbrev eZ (G : zG) (n : Nat) : va_E := .inl (G.2.2.1.1 22, n, .inl (fun _ => 0))
abbrev eC (G : zG) (n : Nat) : va_E := .inl (G.2.2.1.1 23, n, .inl (fun _ => 0))
def kp_X8 (G : zG) (q : Nat) (u : Nat → Nat) : va_W := (q, .inr (7, [.ref (u 0), .int 0, .int 0, .int 0, .int 0, .int 0])) :: ([] ++ [(u 0, eC G 1000)])
set_option maxRecDepth 100000 in
set_option maxHeartbeats 4000000 in
theorem kc_X8 (l : Launch) (G : zG) (q : Nat) : kM l G yX8_init cX8_init 1 1 12 1 1000 [.ref q] [(q, .inr (7, [.null, .int 0, .int 0, .int 0, .int 0, .int 0]))] (kp_X8 G q) := by
  refine kM_of (by decide +kernel) (Nat.le_of_ble_eq_true rfl) (fun K A hl hK hN hE => ?_)
  subst hl
  show kW K G A 1 0 [(0, .ref q)] [] [(q, .inr (7, [.null, .int 0, .int 0, .int 0, .int 0, .int 0]))] 0 0
  refine k_aload_n hK 0 dX8_init_0 rfl ?_
  refine k_objInit hK q_138 ⟨q_131, q_132⟩ ⟨Nat.le_of_ble_eq_true rfl, Nat.le_of_ble_eq_true rfl⟩ dX8_init_1 ?_
  refine k_aload_n hK 0 dX8_init_4 rfl ?_
  refine k_sipush (v := 1000) hK dX8_init_5 (by decide) ?_
  refine k_newa hK (atype := .char) (ty := .char) 3 q_167 rfl rfl (a0 := (1000, .inl (fun _ => 0))) (N' := 1000) (fun _ => rfl) (by decide) (by decide) (by decide) dX8_init_8 rfl rfl (by decide) (by decide) (fun a1 => ?_)
  show kW K G A 1 10 [(0, .ref q)] [.ref a1, .ref q] ((q, .inr (7, [.null, .int 0, .int 0, .int 0, .int 0, .int 0])) :: ([] ++ [(a1, eC G 1000)])) 1 1000
  refine k_putF hK hN kff_X8_9_7  rfl rfl (Nat.le_of_ble_eq_true rfl) (fs' := [.ref a1, .int 0, .int 0, .int 0, .int 0, .int 0]) rfl dX8_init_10 ?_
  exact k_vret hK hN hE (fun i => [a1].getD i 0) rfl (by decide) (by decide) dX8_init_13
def kp_X1 (G : zG) (q : Nat) (u : Nat → Nat) : va_W := (q, .inr (1, [.ref (u 0), .ref (u 1), .int 0, .int 0, .int 0, .int 0, .int 0, .int 0, .int 0, .int 0, .int 0, .int 0])) :: (([] ++ [(u 0, eI G 1000)]) ++ [(u 1, eI G 32)])
set_option maxRecDepth 100000 in
set_option maxHeartbeats 4000000 in
theorem kc_X1 (l : Launch) (G : zG) (q : Nat) : kM l G yX1_init cX1_init 1 1 12 2 1032 [.ref q] [(q, .inr (1, [.null, .null, .int 0, .int 0, .int 0, .int 0, .int 0, .int 0, .int 0, .int 0, .int 0, .int 0]))] (kp_X1 G q) := by
  refine kM_of (by decide +kernel) (Nat.le_of_ble_eq_true rfl) (fun K A hl hK hN hE => ?_)
  subst hl
  show kW K G A 1 0 [(0, .ref q)] [] [(q, .inr (1, [.null, .null, .int 0, .int 0, .int 0, .int 0, .int 0, .int 0, .int 0, .int 0, .int 0, .int 0]))] 0 0
  refine k_aload_n hK 0 dX1_init_0 rfl ?_
  refine k_objInit hK q_179 ⟨q_131, q_132⟩ ⟨Nat.le_of_ble_eq_true rfl, Nat.le_of_ble_eq_true rfl⟩ dX1_init_1 ?_
  refine k_aload_n hK 0 dX1_init_4 rfl ?_
  refine k_sipush (v := 1000) hK dX1_init_5 (by decide) ?_
  refine k_newa hK (atype := .int) (ty := .int) 0 q_223 rfl rfl (a0 := (1000, .inl (fun _ => 0))) (N' := 1000) (fun _ => rfl) (by decide) (by decide) (by decide) dX1_init_8 rfl rfl (by decide) (by decide) (fun a1 => ?_)
  show kW K G A 1 10 [(0, .ref q)] [.ref a1, .ref q] ((q, .inr (1, [.null, .null, .int 0, .int 0, .int 0, .int 0, .int 0, .int 0, .int 0, .int 0, .int 0, .int 0])) :: ([] ++ [(a1, eI G 1000)])) 1 1000
  refine k_putF hK hN kff_X1_11_1  rfl rfl (Nat.le_of_ble_eq_true rfl) (fs' := [.ref a1, .null, .int 0, .int 0, .int 0, .int 0, .int 0, .int 0, .int 0, .int 0, .int 0, .int 0]) rfl dX1_init_10 ?_
  refine k_aload_n hK 0 dX1_init_13 rfl ?_
  refine k_bipush (v := 32) hK dX1_init_14 (by decide) ?_
  refine k_newa hK (atype := .int) (ty := .int) 0 q_223 rfl rfl (a0 := (32, .inl (fun _ => 0))) (N' := 32) (fun _ => rfl) (by decide) (by decide) (by decide) dX1_init_16 rfl rfl (by decide) (by decide) (fun a2 => ?_)
  show kW K G A 1 18 [(0, .ref q)] [.ref a2, .ref q] ((q, .inr (1, [.ref a1, .null, .int 0, .int 0, .int 0, .int 0, .int 0, .int 0, .int 0, .int 0, .int 0, .int 0])) :: (([] ++ [(a1, eI G 1000)]) ++ [(a2, eI G 32)])) 2 1032
  refine k_putF hK hN kff_X1_17_1  rfl rfl (Nat.le_of_ble_eq_true rfl) (fs' := [.ref a1, .ref a2, .int 0, .int 0, .int 0, .int 0, .int 0, .int 0, .int 0, .int 0, .int 0, .int 0]) rfl dX1_init_18 ?_
  exact k_vret hK hN hE (fun i => [a1, a2].getD i 0) rfl (by decide) (by decide) dX1_init_21
def kp_X9 (G : zG) (q : Nat) (u : Nat → Nat) : va_W := (q, .inr (8, [.ref (u 0), .int 0])) :: ([] ++ [(u 0, eI G 40)])
set_option maxRecDepth 100000 in
set_option maxHeartbeats 4000000 in
theorem kc_X9 (l : Launch) (G : zG) (q : Nat) : kM l G yX9_init cX9_init 1 1 12 1 40 [.ref q] [(q, .inr (8, [.null, .int 0]))] (kp_X9 G q) := by
  refine kM_of (by decide +kernel) (Nat.le_of_ble_eq_true rfl) (fun K A hl hK hN hE => ?_)
  subst hl
  show kW K G A 1 0 [(0, .ref q)] [] [(q, .inr (8, [.null, .int 0]))] 0 0
  refine k_aload_n hK 0 dX9_init_0 rfl ?_
  refine k_objInit hK q_361 ⟨q_131, q_132⟩ ⟨Nat.le_of_ble_eq_true rfl, Nat.le_of_ble_eq_true rfl⟩ dX9_init_1 ?_
  refine k_aload_n hK 0 dX9_init_4 rfl ?_
  refine k_bipush (v := 40) hK dX9_init_5 (by decide) ?_
  refine k_newa hK (atype := .int) (ty := .int) 0 q_223 rfl rfl (a0 := (40, .inl (fun _ => 0))) (N' := 40) (fun _ => rfl) (by decide) (by decide) (by decide) dX9_init_7 rfl rfl (by decide) (by decide) (fun a1 => ?_)
  show kW K G A 1 9 [(0, .ref q)] [.ref a1, .ref q] ((q, .inr (8, [.null, .int 0])) :: ([] ++ [(a1, eI G 40)])) 1 40
  refine k_putF hK hN kff_X9_9_8  rfl rfl (Nat.le_of_ble_eq_true rfl) (fs' := [.ref a1, .int 0]) rfl dX9_init_9 ?_
  exact k_vret hK hN hE (fun i => [a1].getD i 0) rfl (by decide) (by decide) dX9_init_12
def kp_X7 (G : zG) (q r : Nat) (u : Nat → Nat) : va_W := (q, .inr (6, [.ref r, .ref (u 0), .ref (u 1), .ref (u 2), .int 0, .int 0])) :: ((([] ++ [(u 0, eI G 49)]) ++ [(u 1, eI G 49)]) ++ [(u 2, eI G 7)])
set_option maxRecDepth 100000 in
set_option maxHeartbeats 4000000 in
theorem kc_X7 (l : Launch) (G : zG) (q r : Nat) : kM l G yX7_init cX7_init 2 1 12 3 105 [.ref q, .ref r] [(q, .inr (6, [.null, .null, .null, .null, .int 0, .int 0]))] (kp_X7 G q r) := by
  refine kM_of (by decide +kernel) (Nat.le_of_ble_eq_true rfl) (fun K A hl hK hN hE => ?_)
  subst hl
  show kW K G A 2 0 [(0, .ref q), (1, .ref r)] [] [(q, .inr (6, [.null, .null, .null, .null, .int 0, .int 0]))] 0 0
  refine k_aload_n hK 0 dX7_init_0 rfl ?_
  refine k_objInit hK q_387 ⟨q_131, q_132⟩ ⟨Nat.le_of_ble_eq_true rfl, Nat.le_of_ble_eq_true rfl⟩ dX7_init_1 ?_
  refine k_aload_n hK 0 dX7_init_4 rfl ?_
  refine k_bipush (v := 49) hK dX7_init_5 (by decide) ?_
  refine k_newa hK (atype := .int) (ty := .int) 0 q_223 rfl rfl (a0 := (49, .inl (fun _ => 0))) (N' := 49) (fun _ => rfl) (by decide) (by decide) (by decide) dX7_init_7 rfl rfl (by decide) (by decide) (fun a1 => ?_)
  show kW K G A 2 9 [(0, .ref q), (1, .ref r)] [.ref a1, .ref q] ((q, .inr (6, [.null, .null, .null, .null, .int 0, .int 0])) :: ([] ++ [(a1, eI G 49)])) 1 49
  refine k_putF hK hN kff_X7_9_6  rfl rfl (Nat.le_of_ble_eq_true rfl) (fs' := [.null, .ref a1, .null, .null, .int 0, .int 0]) rfl dX7_init_9 ?_
  refine k_aload_n hK 0 dX7_init_12 rfl ?_
  refine k_bipush (v := 49) hK dX7_init_13 (by decide) ?_
  refine k_newa hK (atype := .int) (ty := .int) 0 q_223 rfl rfl (a0 := (49, .inl (fun _ => 0))) (N' := 49) (fun _ => rfl) (by decide) (by decide) (by decide) dX7_init_15 rfl rfl (by decide) (by decide) (fun a2 => ?_)
  show kW K G A 2 17 [(0, .ref q), (1, .ref r)] [.ref a2, .ref q] ((q, .inr (6, [.null, .ref a1, .null, .null, .int 0, .int 0])) :: (([] ++ [(a1, eI G 49)]) ++ [(a2, eI G 49)])) 2 98
  refine k_putF hK hN kff_X7_15_6  rfl rfl (Nat.le_of_ble_eq_true rfl) (fs' := [.null, .ref a1, .ref a2, .null, .int 0, .int 0]) rfl dX7_init_17 ?_
  refine k_aload_n hK 0 dX7_init_20 rfl ?_
  refine k_bipush (v := 7) hK dX7_init_21 (by decide) ?_
  refine k_newa hK (atype := .int) (ty := .int) 0 q_223 rfl rfl (a0 := (7, .inl (fun _ => 0))) (N' := 7) (fun _ => rfl) (by decide) (by decide) (by decide) dX7_init_23 rfl rfl (by decide) (by decide) (fun a3 => ?_)
  show kW K G A 2 25 [(0, .ref q), (1, .ref r)] [.ref a3, .ref q] ((q, .inr (6, [.null, .ref a1, .ref a2, .null, .int 0, .int 0])) :: ((([] ++ [(a1, eI G 49)]) ++ [(a2, eI G 49)]) ++ [(a3, eI G 7)])) 3 105
  refine k_putF hK hN kff_X7_18_6  rfl rfl (Nat.le_of_ble_eq_true rfl) (fs' := [.null, .ref a1, .ref a2, .ref a3, .int 0, .int 0]) rfl dX7_init_25 ?_
  refine k_aload_n hK 0 dX7_init_28 rfl ?_
  refine k_aload_n hK 1 dX7_init_29 rfl ?_
  refine k_putF hK hN kff_X7_21_6  rfl rfl (Nat.le_of_ble_eq_true rfl) (fs' := [.ref r, .ref a1, .ref a2, .ref a3, .int 0, .int 0]) rfl dX7_init_30 ?_
  exact k_vret hK hN hE (fun i => [a1, a2, a3].getD i 0) rfl (by decide) (by decide) dX7_init_33
def kp_X0 (G : zG) (q t w : Nat) (u : Nat → Nat) : va_W := (q, .inr (0, [.ref t, .ref w, .ref (u 0), .int 0, .int 0, .int 0, .int 0])) :: ([] ++ [(u 0, eI G 32)])
set_option maxRecDepth 100000 in
set_option maxHeartbeats 4000000 in
theorem kc_X0 (l : Launch) (G : zG) (q t w : Nat) : kM l G yX0_init cX0_init 3 1 12 1 32 [.ref q, .ref t, .ref w] [(q, .inr (0, [.null, .null, .null, .int 0, .int 0, .int 0, .int 0]))] (kp_X0 G q t w) := by
  refine kM_of (by decide +kernel) (Nat.le_of_ble_eq_true rfl) (fun K A hl hK hN hE => ?_)
  subst hl
  show kW K G A 3 0 [(0, .ref q), (1, .ref t), (2, .ref w)] [] [(q, .inr (0, [.null, .null, .null, .int 0, .int 0, .int 0, .int 0]))] 0 0
  refine k_aload_n hK 0 dX0_init_0 rfl ?_
  refine k_objInit hK q_297 ⟨q_131, q_132⟩ ⟨Nat.le_of_ble_eq_true rfl, Nat.le_of_ble_eq_true rfl⟩ dX0_init_1 ?_
  refine k_aload_n hK 0 dX0_init_4 rfl ?_
  refine k_bipush (v := 32) hK dX0_init_5 (by decide) ?_
  refine k_newa hK (atype := .int) (ty := .int) 0 q_223 rfl rfl (a0 := (32, .inl (fun _ => 0))) (N' := 32) (fun _ => rfl) (by decide) (by decide) (by decide) dX0_init_7 rfl rfl (by decide) (by decide) (fun a1 => ?_)
  show kW K G A 3 9 [(0, .ref q), (1, .ref t), (2, .ref w)] [.ref a1, .ref q] ((q, .inr (0, [.null, .null, .null, .int 0, .int 0, .int 0, .int 0])) :: ([] ++ [(a1, eI G 32)])) 1 32
  refine k_putF hK hN kff_X0_9_0  rfl rfl (Nat.le_of_ble_eq_true rfl) (fs' := [.null, .null, .ref a1, .int 0, .int 0, .int 0, .int 0]) rfl dX0_init_9 ?_
  refine k_aload_n hK 0 dX0_init_12 rfl ?_
  refine k_aload_n hK 1 dX0_init_13 rfl ?_
  refine k_putF hK hN kff_X0_13_0  rfl rfl (Nat.le_of_ble_eq_true rfl) (fs' := [.ref t, .null, .ref a1, .int 0, .int 0, .int 0, .int 0]) rfl dX0_init_14 ?_
  refine k_aload_n hK 0 dX0_init_17 rfl ?_
  refine k_aload_n hK 2 dX0_init_18 rfl ?_
  refine k_putF hK hN kff_X0_17_0  rfl rfl (Nat.le_of_ble_eq_true rfl) (fs' := [.ref t, .ref w, .ref a1, .int 0, .int 0, .int 0, .int 0]) rfl dX0_init_19 ?_
  exact k_vret hK hN hE (fun i => [a1].getD i 0) rfl (by decide) (by decide) dX0_init_22
set_option maxRecDepth 100000 in
set_option maxHeartbeats 4000000 in
theorem kc_X4_5 (l : Launch) (G : zG) (q t r : Nat) (X : va_W) : kM l G yX4_init cX4_init 3 1 12 0 0 [.ref q, .ref t, .ref r] ((q, .inr (5, [.null, .null, .int 0, .int 0, .null, .int 0])) :: X) (fun _ => (q, .inr (5, [.ref t, .ref r, .int 0, .int 0, .null, .int 0])) :: X) := by
  refine kM_of (by decide +kernel) (Nat.le_of_ble_eq_true rfl) (fun K A hl hK hN hE => ?_)
  subst hl
  show kW K G A 3 0 [(0, .ref q), (1, .ref t), (2, .ref r)] [] ((q, .inr (5, [.null, .null, .int 0, .int 0, .null, .int 0])) :: X) 0 0
  refine k_aload_n hK 0 dX4_init_0 rfl ?_
  refine k_objInit hK q_291 ⟨q_131, q_132⟩ ⟨Nat.le_of_ble_eq_true rfl, Nat.le_of_ble_eq_true rfl⟩ dX4_init_1 ?_
  refine k_aload_n hK 0 dX4_init_4 rfl ?_
  refine k_aload_n hK 1 dX4_init_5 rfl ?_
  refine k_putF hK hN kff_X4_9_5  rfl rfl (Nat.le_of_ble_eq_true rfl) (fs' := [.ref t, .null, .int 0, .int 0, .null, .int 0]) rfl dX4_init_6 ?_
  refine k_aload_n hK 0 dX4_init_9 rfl ?_
  refine k_aload_n hK 2 dX4_init_10 rfl ?_
  refine k_putF hK hN kff_X4_15_5  rfl rfl (Nat.le_of_ble_eq_true rfl) (fs' := [.ref t, .ref r, .int 0, .int 0, .null, .int 0]) rfl dX4_init_11 ?_
  exact k_vret hK hN hE (fun i => [].getD i 0) rfl (by decide) (by decide) dX4_init_14
set_option maxRecDepth 100000 in
set_option maxHeartbeats 4000000 in
theorem kc_X4_9 (l : Launch) (G : zG) (q t r : Nat) (X : va_W) : kM l G yX4_init cX4_init 3 1 12 0 0 [.ref q, .ref t, .ref r] ((q, .inr (9, [.null, .null, .int 0, .int 0, .null])) :: X) (fun _ => (q, .inr (9, [.ref t, .ref r, .int 0, .int 0, .null])) :: X) := by
  refine kM_of (by decide +kernel) (Nat.le_of_ble_eq_true rfl) (fun K A hl hK hN hE => ?_)
  subst hl
  show kW K G A 3 0 [(0, .ref q), (1, .ref t), (2, .ref r)] [] ((q, .inr (9, [.null, .null, .int 0, .int 0, .null])) :: X) 0 0
  refine k_aload_n hK 0 dX4_init_0 rfl ?_
  refine k_objInit hK q_291 ⟨q_131, q_132⟩ ⟨Nat.le_of_ble_eq_true rfl, Nat.le_of_ble_eq_true rfl⟩ dX4_init_1 ?_
  refine k_aload_n hK 0 dX4_init_4 rfl ?_
  refine k_aload_n hK 1 dX4_init_5 rfl ?_
  refine k_putF hK hN kff_X4_9_9  rfl rfl (Nat.le_of_ble_eq_true rfl) (fs' := [.ref t, .null, .int 0, .int 0, .null]) rfl dX4_init_6 ?_
  refine k_aload_n hK 0 dX4_init_9 rfl ?_
  refine k_aload_n hK 2 dX4_init_10 rfl ?_
  refine k_putF hK hN kff_X4_15_9  rfl rfl (Nat.le_of_ble_eq_true rfl) (fs' := [.ref t, .ref r, .int 0, .int 0, .null]) rfl dX4_init_11 ?_
  exact k_vret hK hN hE (fun i => [].getD i 0) rfl (by decide) (by decide) dX4_init_14
def kpF_X5 (u : Nat → Nat) : List Value := [.ref (u 0), .ref (u 1), .ref (u 2), .ref (u 3), .ref (u 4), .ref (u 5), .ref (u 6), .int 0, .int 7, .int 0, .int 0]
def kpX_X5 (G : zG) (u : Nat → Nat) : va_W := ((((((([] ++ [(u 0, eL G 7)]) ++ [(u 1, eI G 7)]) ++ [(u 2, eI G 7)]) ++ [(u 3, eI G 7)]) ++ [(u 4, eI G 7)]) ++ [(u 5, eI G 49)]) ++ kp_X1 G (u 6) (fun j => u (7 + j)))
def kp_X5 (G : zG) (q : Nat) (u : Nat → Nat) : va_W := (q, .inr (4, kpF_X5 u)) :: kpX_X5 G u
set_option maxRecDepth 100000 in
set_option maxHeartbeats 4000000 in
theorem kc_X5 (l : Launch) (G : zG) (q : Nat) : kM l G yX5_init cX5_init 1 2 32 9 1128 [.ref q] [(q, .inr (4, [.null, .null, .null, .null, .null, .null, .null, .int 0, .int 0, .int 0, .int 0]))] (kp_X5 G q) := by
  refine kM_of (by decide +kernel) (Nat.le_of_ble_eq_true rfl) (fun K A hl hK hN hE => ?_)
  subst hl
  show kW K G A 1 0 [(0, .ref q)] [] [(q, .inr (4, [.null, .null, .null, .null, .null, .null, .null, .int 0, .int 0, .int 0, .int 0]))] 0 0
  refine k_aload_n hK 0 dX5_init_0 rfl ?_
  refine k_objInit hK q_173 ⟨q_131, q_132⟩ ⟨Nat.le_of_ble_eq_true rfl, Nat.le_of_ble_eq_true rfl⟩ dX5_init_1 ?_
  refine k_aload_n hK 0 dX5_init_4 rfl ?_
  refine k_bipush (v := 7) hK dX5_init_5 (by decide) ?_
  refine k_newa hK (atype := .long) (ty := .long) 1 q_222 rfl rfl (a0 := (7, .inr (.inl (fun _ => 0)))) (N' := 7) (fun _ => rfl) (by decide) (by decide) (by decide) dX5_init_7 rfl rfl (by decide) (by decide) (fun a1 => ?_)
  show kW K G A 1 9 [(0, .ref q)] [.ref a1, .ref q] ((q, .inr (4, [.null, .null, .null, .null, .null, .null, .null, .int 0, .int 0, .int 0, .int 0])) :: ([] ++ [(a1, eL G 7)])) 1 7
  refine k_putF hK hN kff_X5_9_4  rfl rfl (Nat.le_of_ble_eq_true rfl) (fs' := [.ref a1, .null, .null, .null, .null, .null, .null, .int 0, .int 0, .int 0, .int 0]) rfl dX5_init_9 ?_
  refine k_aload_n hK 0 dX5_init_12 rfl ?_
  refine k_bipush (v := 7) hK dX5_init_13 (by decide) ?_
  refine k_newa hK (atype := .int) (ty := .int) 0 q_223 rfl rfl (a0 := (7, .inl (fun _ => 0))) (N' := 7) (fun _ => rfl) (by decide) (by decide) (by decide) dX5_init_15 rfl rfl (by decide) (by decide) (fun a2 => ?_)
  show kW K G A 1 17 [(0, .ref q)] [.ref a2, .ref q] ((q, .inr (4, [.ref a1, .null, .null, .null, .null, .null, .null, .int 0, .int 0, .int 0, .int 0])) :: (([] ++ [(a1, eL G 7)]) ++ [(a2, eI G 7)])) 2 14
  refine k_putF hK hN kff_X5_15_4  rfl rfl (Nat.le_of_ble_eq_true rfl) (fs' := [.ref a1, .ref a2, .null, .null, .null, .null, .null, .int 0, .int 0, .int 0, .int 0]) rfl dX5_init_17 ?_
  refine k_aload_n hK 0 dX5_init_20 rfl ?_
  refine k_bipush (v := 7) hK dX5_init_21 (by decide) ?_
  refine k_newa hK (atype := .int) (ty := .int) 0 q_223 rfl rfl (a0 := (7, .inl (fun _ => 0))) (N' := 7) (fun _ => rfl) (by decide) (by decide) (by decide) dX5_init_23 rfl rfl (by decide) (by decide) (fun a3 => ?_)
  show kW K G A 1 25 [(0, .ref q)] [.ref a3, .ref q] ((q, .inr (4, [.ref a1, .ref a2, .null, .null, .null, .null, .null, .int 0, .int 0, .int 0, .int 0])) :: ((([] ++ [(a1, eL G 7)]) ++ [(a2, eI G 7)]) ++ [(a3, eI G 7)])) 3 21
  refine k_putF hK hN kff_X5_19_4  rfl rfl (Nat.le_of_ble_eq_true rfl) (fs' := [.ref a1, .ref a2, .ref a3, .null, .null, .null, .null, .int 0, .int 0, .int 0, .int 0]) rfl dX5_init_25 ?_
  refine k_aload_n hK 0 dX5_init_28 rfl ?_
  refine k_bipush (v := 7) hK dX5_init_29 (by decide) ?_
  refine k_newa hK (atype := .int) (ty := .int) 0 q_223 rfl rfl (a0 := (7, .inl (fun _ => 0))) (N' := 7) (fun _ => rfl) (by decide) (by decide) (by decide) dX5_init_31 rfl rfl (by decide) (by decide) (fun a4 => ?_)
  show kW K G A 1 33 [(0, .ref q)] [.ref a4, .ref q] ((q, .inr (4, [.ref a1, .ref a2, .ref a3, .null, .null, .null, .null, .int 0, .int 0, .int 0, .int 0])) :: (((([] ++ [(a1, eL G 7)]) ++ [(a2, eI G 7)]) ++ [(a3, eI G 7)]) ++ [(a4, eI G 7)])) 4 28
  refine k_putF hK hN kff_X5_22_4  rfl rfl (Nat.le_of_ble_eq_true rfl) (fs' := [.ref a1, .ref a2, .ref a3, .ref a4, .null, .null, .null, .int 0, .int 0, .int 0, .int 0]) rfl dX5_init_33 ?_
  refine k_aload_n hK 0 dX5_init_36 rfl ?_
  refine k_bipush (v := 7) hK dX5_init_37 (by decide) ?_
  refine k_newa hK (atype := .int) (ty := .int) 0 q_223 rfl rfl (a0 := (7, .inl (fun _ => 0))) (N' := 7) (fun _ => rfl) (by decide) (by decide) (by decide) dX5_init_39 rfl rfl (by decide) (by decide) (fun a5 => ?_)
  show kW K G A 1 41 [(0, .ref q)] [.ref a5, .ref q] ((q, .inr (4, [.ref a1, .ref a2, .ref a3, .ref a4, .null, .null, .null, .int 0, .int 0, .int 0, .int 0])) :: ((((([] ++ [(a1, eL G 7)]) ++ [(a2, eI G 7)]) ++ [(a3, eI G 7)]) ++ [(a4, eI G 7)]) ++ [(a5, eI G 7)])) 5 35
  refine k_putF hK hN kff_X5_25_4  rfl rfl (Nat.le_of_ble_eq_true rfl) (fs' := [.ref a1, .ref a2, .ref a3, .ref a4, .ref a5, .null, .null, .int 0, .int 0, .int 0, .int 0]) rfl dX5_init_41 ?_
  refine k_aload_n hK 0 dX5_init_44 rfl ?_
  refine k_bipush (v := 49) hK dX5_init_45 (by decide) ?_
  refine k_newa hK (atype := .int) (ty := .int) 0 q_223 rfl rfl (a0 := (49, .inl (fun _ => 0))) (N' := 49) (fun _ => rfl) (by decide) (by decide) (by decide) dX5_init_47 rfl rfl (by decide) (by decide) (fun a6 => ?_)
  show kW K G A 1 49 [(0, .ref q)] [.ref a6, .ref q] ((q, .inr (4, [.ref a1, .ref a2, .ref a3, .ref a4, .ref a5, .null, .null, .int 0, .int 0, .int 0, .int 0])) :: (((((([] ++ [(a1, eL G 7)]) ++ [(a2, eI G 7)]) ++ [(a3, eI G 7)]) ++ [(a4, eI G 7)]) ++ [(a5, eI G 7)]) ++ [(a6, eI G 49)])) 6 84
  refine k_putF hK hN kff_X5_28_4  rfl rfl (Nat.le_of_ble_eq_true rfl) (fs' := [.ref a1, .ref a2, .ref a3, .ref a4, .ref a5, .ref a6, .null, .int 0, .int 0, .int 0, .int 0]) rfl dX5_init_49 ?_
  refine k_aload_n hK 0 dX5_init_52 rfl ?_
  refine k_new hK knf_X5_31 dX5_init_53 rfl rfl (by decide) (by decide) (fun a7 => ?_)
  show kW K G A 1 56 [(0, .ref q)] [.ref a7, .ref q] ((q, .inr (4, [.ref a1, .ref a2, .ref a3, .ref a4, .ref a5, .ref a6, .null, .int 0, .int 0, .int 0, .int 0])) :: ((((((([] ++ [(a1, eL G 7)]) ++ [(a2, eI G 7)]) ++ [(a3, eI G 7)]) ++ [(a4, eI G 7)]) ++ [(a5, eI G 7)]) ++ [(a6, eI G 49)]) ++ [(a7, .inr (1, [.null, .null, .int 0, .int 0, .int 0, .int 0, .int 0, .int 0, .int 0, .int 0, .int 0, .int 0]))])) 7 96
  refine k_dup hK dX5_init_56 rfl ?_
  refine k_callN hK [] (pre := ((q, .inr (4, [.ref a1, .ref a2, .ref a3, .ref a4, .ref a5, .ref a6, .null, .int 0, .int 0, .int 0, .int 0])) :: (((((([] ++ [(a1, eL G 7)]) ++ [(a2, eI G 7)]) ++ [(a3, eI G 7)]) ++ [(a4, eI G 7)]) ++ [(a5, eI G 7)]) ++ [(a6, eI G 49)]))) (suf := [(a7, .inr (1, [.null, .null, .int 0, .int 0, .int 0, .int 0, .int 0, .int 0, .int 0, .int 0, .int 0, .int 0]))]) (kc_X1 K.2.1 G a7) kif_X1 (host := RX11) (List.mem_of_getElem? (i := 2) rfl) rfl [.ref a7, .ref q] rfl (Nat.le_of_ble_eq_true rfl) ⟨Nat.le_of_ble_eq_true rfl, Nat.le_of_ble_eq_true rfl⟩ rfl dX5_init_57 rfl rfl (by decide) (by decide) (fun v8 => ?_)
  show kW K G A 1 60 [(0, .ref q)] [.ref a7, .ref q] ((q, .inr (4, [.ref a1, .ref a2, .ref a3, .ref a4, .ref a5, .ref a6, .null, .int 0, .int 0, .int 0, .int 0])) :: ((((((([] ++ [(a1, eL G 7)]) ++ [(a2, eI G 7)]) ++ [(a3, eI G 7)]) ++ [(a4, eI G 7)]) ++ [(a5, eI G 7)]) ++ [(a6, eI G 49)]) ++ kp_X1 G a7 v8)) 9 1128
  refine k_putF hK hN kff_X5_34_4  rfl rfl (Nat.le_of_ble_eq_true rfl) (fs' := [.ref a1, .ref a2, .ref a3, .ref a4, .ref a5, .ref a6, .ref a7, .int 0, .int 0, .int 0, .int 0]) rfl dX5_init_60 ?_
  refine k_aload_n hK 0 dX5_init_63 rfl ?_
  refine k_bipush (v := 7) hK dX5_init_64 (by decide) ?_
  refine k_put hK kpf_X5_38_4  rfl rfl (Nat.le_of_ble_eq_true rfl) (fs' := [.ref a1, .ref a2, .ref a3, .ref a4, .ref a5, .ref a6, .ref a7, .int 0, .int 7, .int 0, .int 0]) rfl dX5_init_66 ?_
  exact k_vret hK hN hE (fun i => [a1, a2, a3, a4, a5, a6, a7, v8 0, v8 1].getD i 0) rfl (by decide) (by decide) dX5_init_69
def kp_X2 (G : zG) (q r : Nat) (u : Nat → Nat) : va_W := (q, .inr (2, [.ref (u 2), .ref (u 0), .int 0, .int 1022, .int 0])) :: (([] ++ kp_X9 G (u 0) (fun j => u (1 + j))) ++ kp_X7 G (u 2) (r) (fun j => u (3 + j)))
set_option maxRecDepth 100000 in
set_option maxHeartbeats 4000000 in
theorem kc_X2 (l : Launch) (G : zG) (q r : Nat) : kM l G yX2_init cX2_init 2 2 33 6 153 [.ref q, .ref r] [(q, .inr (2, [.null, .null, .int 0, .int 0, .int 0]))] (kp_X2 G q r) := by
  refine kM_of (by decide +kernel) (Nat.le_of_ble_eq_true rfl) (fun K A hl hK hN hE => ?_)
  subst hl
  show kW K G A 2 0 [(0, .ref q), (1, .ref r)] [] [(q, .inr (2, [.null, .null, .int 0, .int 0, .int 0]))] 0 0
  refine k_aload_n hK 0 dX2_init_0 rfl ?_
  refine k_objInit hK q_417 ⟨q_131, q_132⟩ ⟨Nat.le_of_ble_eq_true rfl, Nat.le_of_ble_eq_true rfl⟩ dX2_init_1 ?_
  refine k_aload_n hK 0 dX2_init_4 rfl ?_
  refine k_new hK knf_X2_9 dX2_init_5 rfl rfl (by decide) (by decide) (fun a1 => ?_)
  show kW K G A 2 8 [(0, .ref q), (1, .ref r)] [.ref a1, .ref q] ((q, .inr (2, [.null, .null, .int 0, .int 0, .int 0])) :: ([] ++ [(a1, .inr (8, [.null, .int 0]))])) 1 2
  refine k_dup hK dX2_init_8 rfl ?_
  refine k_callN hK [] (pre := ((q, .inr (2, [.null, .null, .int 0, .int 0, .int 0])) :: [])) (suf := [(a1, .inr (8, [.null, .int 0]))]) (kc_X9 K.2.1 G a1) kif_X9 (host := RX11) (List.mem_of_getElem? (i := 4) rfl) rfl [.ref a1, .ref q] rfl (Nat.le_of_ble_eq_true rfl) ⟨Nat.le_of_ble_eq_true rfl, Nat.le_of_ble_eq_true rfl⟩ rfl dX2_init_9 rfl rfl (by decide) (by decide) (fun v2 => ?_)
  show kW K G A 2 12 [(0, .ref q), (1, .ref r)] [.ref a1, .ref q] ((q, .inr (2, [.null, .null, .int 0, .int 0, .int 0])) :: ([] ++ kp_X9 G a1 v2)) 2 42
  refine k_putF hK hN kff_X2_12_2  rfl rfl (Nat.le_of_ble_eq_true rfl) (fs' := [.null, .ref a1, .int 0, .int 0, .int 0]) rfl dX2_init_12 ?_
  refine k_aload_n hK 0 dX2_init_15 rfl ?_
  refine k_sipush (v := 1022) hK dX2_init_16 (by decide) ?_
  refine k_put hK kpf_X2_18_2  rfl rfl (Nat.le_of_ble_eq_true rfl) (fs' := [.null, .ref a1, .int 0, .int 1022, .int 0]) rfl dX2_init_19 ?_
  refine k_aload_n hK 0 dX2_init_22 rfl ?_
  refine k_new hK knf_X2_22 dX2_init_23 rfl rfl (by decide) (by decide) (fun a3 => ?_)
  show kW K G A 2 26 [(0, .ref q), (1, .ref r)] [.ref a3, .ref q] ((q, .inr (2, [.null, .ref a1, .int 0, .int 1022, .int 0])) :: (([] ++ kp_X9 G a1 v2) ++ [(a3, .inr (6, [.null, .null, .null, .null, .int 0, .int 0]))])) 3 48
  refine k_dup hK dX2_init_26 rfl ?_
  refine k_aload_n hK 1 dX2_init_27 rfl ?_
  refine k_callI hK [.ref r] (pre := ((q, .inr (2, [.null, .ref a1, .int 0, .int 1022, .int 0])) :: ([] ++ kp_X9 G a1 v2))) (suf := [(a3, .inr (6, [.null, .null, .null, .null, .int 0, .int 0]))]) (kc_X7 K.2.1 G a3 r) kif_X7 q_421 rfl [.ref a3, .ref q] rfl (Nat.le_of_ble_eq_true rfl) ⟨Nat.le_of_ble_eq_true rfl, Nat.le_of_ble_eq_true rfl⟩ rfl dX2_init_28 rfl rfl (by decide) (by decide) (fun v4 => ?_)
  show kW K G A 2 31 [(0, .ref q), (1, .ref r)] [.ref a3, .ref q] ((q, .inr (2, [.null, .ref a1, .int 0, .int 1022, .int 0])) :: (([] ++ kp_X9 G a1 v2) ++ kp_X7 G a3 r v4)) 6 153
  refine k_putF hK hN kff_X2_27_2  rfl rfl (Nat.le_of_ble_eq_true rfl) (fs' := [.ref a3, .ref a1, .int 0, .int 1022, .int 0]) rfl dX2_init_31 ?_
  exact k_vret hK hN hE (fun i => [a1, v2 0, a3, v4 0, v4 1, v4 2].getD i 0) rfl (by decide) (by decide) dX2_init_34
def kp_X10 (G : zG) (q t r : Nat) (u : Nat → Nat) : va_W := (q, .inr (9, [.ref t, .ref r, .int 0, .int 0, .ref (u 0)])) :: ([] ++ kp_X9 G (u 0) (fun j => u (1 + j)))
set_option maxRecDepth 100000 in
set_option maxHeartbeats 4000000 in
theorem kc_X10 (l : Launch) (G : zG) (q t r : Nat) : kM l G yX10_init cX10_init 3 2 34 2 42 [.ref q, .ref t, .ref r] [(q, .inr (9, [.null, .null, .int 0, .int 0, .null]))] (kp_X10 G q t r) := by
  refine kM_of (by decide +kernel) (Nat.le_of_ble_eq_true rfl) (fun K A hl hK hN hE => ?_)
  subst hl
  show kW K G A 3 0 [(0, .ref q), (1, .ref t), (2, .ref r)] [] [(q, .inr (9, [.null, .null, .int 0, .int 0, .null]))] 0 0
  refine k_aload_n hK 0 dX10_init_0 rfl ?_
  refine k_aload_n hK 1 dX10_init_1 rfl ?_
  refine k_aload_n hK 2 dX10_init_2 rfl ?_
  refine k_callI hK [.ref t, .ref r] (pre := []) (suf := (q, .inr (9, [.null, .null, .int 0, .int 0, .null])) :: []) (kc_X4_9 K.2.1 G q t r []) kif_X4 q_355 rfl [] rfl (Nat.le_of_ble_eq_true rfl) ⟨Nat.le_of_ble_eq_true rfl, Nat.le_of_ble_eq_true rfl⟩ rfl dX10_init_3 rfl rfl (by decide) (by decide) (fun v1 => ?_)
  show kW K G A 3 6 [(0, .ref q), (1, .ref t), (2, .ref r)] [] ((q, .inr (9, [.ref t, .ref r, .int 0, .int 0, .null])) :: []) 0 0
  refine k_aload_n hK 0 dX10_init_6 rfl ?_
  refine k_new hK knf_X10_7 dX10_init_7 rfl rfl (by decide) (by decide) (fun a2 => ?_)
  show kW K G A 3 10 [(0, .ref q), (1, .ref t), (2, .ref r)] [.ref a2, .ref q] ((q, .inr (9, [.ref t, .ref r, .int 0, .int 0, .null])) :: ([] ++ [(a2, .inr (8, [.null, .int 0]))])) 1 2
  refine k_dup hK dX10_init_10 rfl ?_
  refine k_callN hK [] (pre := ((q, .inr (9, [.ref t, .ref r, .int 0, .int 0, .null])) :: [])) (suf := [(a2, .inr (8, [.null, .int 0]))]) (kc_X9 K.2.1 G a2) kif_X9 (host := RX11) (List.mem_of_getElem? (i := 3) rfl) rfl [.ref a2, .ref q] rfl (Nat.le_of_ble_eq_true rfl) ⟨Nat.le_of_ble_eq_true rfl, Nat.le_of_ble_eq_true rfl⟩ rfl dX10_init_11 rfl rfl (by decide) (by decide) (fun v3 => ?_)
  show kW K G A 3 14 [(0, .ref q), (1, .ref t), (2, .ref r)] [.ref a2, .ref q] ((q, .inr (9, [.ref t, .ref r, .int 0, .int 0, .null])) :: ([] ++ kp_X9 G a2 v3)) 2 42
  refine k_putF hK hN kff_X10_12_9  rfl rfl (Nat.le_of_ble_eq_true rfl) (fs' := [.ref t, .ref r, .int 0, .int 0, .ref a2]) rfl dX10_init_14 ?_
  exact k_vret hK hN hE (fun i => [a2, v3 0].getD i 0) rfl (by decide) (by decide) dX10_init_17
def kp_X6 (G : zG) (q t d L : Nat) (fsd : List Value) (Xr : va_W) (u : Nat → Nat) : va_W := (q, .inr (5, [.ref t, .ref d, .int 0, .int 0, .ref (u 0), .int 0])) :: (((d, .inr (4, fsd)) :: Xr) ++ kp_X0 G (u 0) (t) (L) (fun j => u (1 + j)))
set_option maxRecDepth 100000 in
set_option maxHeartbeats 4000000 in
theorem kc_X6 (l : Launch) (G : zG) (q t d : Nat) (L : Nat) (fsd : List Value) (Xr : va_W) (hL : fsd[6]? = some (.ref L)) : kM l G yX6_init cX6_init 3 2 34 2 39 [.ref q, .ref t, .ref d] ((q, .inr (5, [.null, .null, .int 0, .int 0, .null, .int 0])) :: (d, .inr (4, fsd)) :: Xr) (kp_X6 G q t d L fsd Xr) := by
  refine kM_of (by decide +kernel) (Nat.le_of_ble_eq_true rfl) (fun K A hl hK hN hE => ?_)
  subst hl
  show kW K G A 3 0 [(0, .ref q), (1, .ref t), (2, .ref d)] [] ((q, .inr (5, [.null, .null, .int 0, .int 0, .null, .int 0])) :: (d, .inr (4, fsd)) :: Xr) 0 0
  refine k_aload_n hK 0 dX6_init_0 rfl ?_
  refine k_aload_n hK 1 dX6_init_1 rfl ?_
  refine k_aload_n hK 2 dX6_init_2 rfl ?_
  refine k_callI hK [.ref t, .ref d] (pre := []) (suf := (q, .inr (5, [.null, .null, .int 0, .int 0, .null, .int 0])) :: ((d, .inr (4, fsd)) :: Xr)) (kc_X4_5 K.2.1 G q t d ((d, .inr (4, fsd)) :: Xr)) kif_X4 q_288 rfl [] rfl (Nat.le_of_ble_eq_true rfl) ⟨Nat.le_of_ble_eq_true rfl, Nat.le_of_ble_eq_true rfl⟩ rfl dX6_init_3 rfl rfl (by decide) (by decide) (fun v1 => ?_)
  show kW K G A 3 6 [(0, .ref q), (1, .ref t), (2, .ref d)] [] ((q, .inr (5, [.ref t, .ref d, .int 0, .int 0, .null, .int 0])) :: ((d, .inr (4, fsd)) :: Xr)) 0 0
  refine k_aload_n hK 0 dX6_init_6 rfl ?_
  refine k_new hK knf_X6_9 dX6_init_7 rfl rfl (by decide) (by decide) (fun a2 => ?_)
  show kW K G A 3 10 [(0, .ref q), (1, .ref t), (2, .ref d)] [.ref a2, .ref q] ((q, .inr (5, [.ref t, .ref d, .int 0, .int 0, .null, .int 0])) :: (((d, .inr (4, fsd)) :: Xr) ++ [(a2, .inr (0, [.null, .null, .null, .int 0, .int 0, .int 0, .int 0]))])) 1 7
  refine k_dup hK dX6_init_10 rfl ?_
  refine k_aload_n hK 1 dX6_init_11 rfl ?_
  refine k_aload_n hK 2 dX6_init_12 rfl ?_
  refine k_get hK kgf_X6_11_4 1 rfl hL dX6_init_13 ?_
  refine k_callI hK [.ref t, .ref L] (pre := ((q, .inr (5, [.ref t, .ref d, .int 0, .int 0, .null, .int 0])) :: ((d, .inr (4, fsd)) :: Xr))) (suf := [(a2, .inr (0, [.null, .null, .null, .int 0, .int 0, .int 0, .int 0]))]) (kc_X0 K.2.1 G a2 t L) kif_X0 q_294 rfl [.ref a2, .ref q] rfl (Nat.le_of_ble_eq_true rfl) ⟨Nat.le_of_ble_eq_true rfl, Nat.le_of_ble_eq_true rfl⟩ rfl dX6_init_16 rfl rfl (by decide) (by decide) (fun v3 => ?_)
  show kW K G A 3 19 [(0, .ref q), (1, .ref t), (2, .ref d)] [.ref a2, .ref q] ((q, .inr (5, [.ref t, .ref d, .int 0, .int 0, .null, .int 0])) :: (((d, .inr (4, fsd)) :: Xr) ++ kp_X0 G a2 t L v3)) 2 39
  refine k_putF hK hN kff_X6_20_5  rfl rfl (Nat.le_of_ble_eq_true rfl) (fs' := [.ref t, .ref d, .int 0, .int 0, .ref a2, .int 0]) rfl dX6_init_19 ?_
  exact k_vret hK hN hE (fun i => [a2, v3 0].getD i 0) rfl (by decide) (by decide) dX6_init_22
