def kq_X11 (G : zG) (q : Nat) (w vm vp : Nat → Nat) : va_W := (q, .inr (10, [.ref (w 0), .ref (w 2), .ref (w 12), .ref (w 25), .ref (w 28), .ref (w 32), .ref (w 36), .ref (w 43), .ref (w 44), .long 0])) :: ((((((((([] ++ kp_X8 G (w 0) (fun j => w (1 + j))) ++ kp_X5 G (w 2) (fun j => w (3 + j))) ++ kp_X6 G (w 12) (w 0) (w 13) ((fun j => w (14 + j)) 6) (kpF_X5 (fun j => w (14 + j))) (kpX_X5 G (fun j => w (14 + j))) (fun j => w (23 + j))) ++ kp_X10 G (w 25) (w 0) (w 2) (fun j => w (26 + j))) ++ kp_X7 G (w 28) (w 2) (fun j => w (29 + j))) ++ kp_X7 G (w 32) (w 2) (fun j => w (33 + j))) ++ kp_X2 G (w 36) (w 2) (fun j => w (37 + j))) ++ ((w 43, .inl (G.2.2.1.1 25, 4, .inr (.inr (.inr (.inr (kRf vm 7 4)))))) :: kMo G (w 2) vm 4)) ++ kp_X3 G (w 44) (w 2) vp)
def kp_X11 (G : zG) (q : Nat) (u : Nat → Nat) : va_W := kq_X11 G q (fun j => u (3 * j)) (fun j => u (3 * j + 1)) (fun j => u (3 * j + 2))
set_option maxRecDepth 100000 in
set_option maxHeartbeats 4000000 in
theorem kc_X11 (l : Launch) (G : zG) (q : Nat) : kM l G yX11_init cX11_init 2 3 56 138 6187 [.ref q] [(q, .inr (10, [.null, .null, .null, .null, .null, .null, .null, .null, .null, .long 0]))] (kp_X11 G q) := by
  refine kM_of (by decide +kernel) (Nat.le_of_ble_eq_true rfl) (fun K A hl hK hN hE => ?_)
  subst hl
  show kW K G A 2 0 [(0, .ref q)] [] [(q, .inr (10, [.null, .null, .null, .null, .null, .null, .null, .null, .null, .long 0]))] 0 0
  refine k_aload_n hK 0 dX11_init_0 rfl ?_
  refine k_objInit hK q_130 ⟨q_131, q_132⟩ ⟨Nat.le_of_ble_eq_true rfl, Nat.le_of_ble_eq_true rfl⟩ dX11_init_1 ?_
  refine k_aload_n hK 0 dX11_init_4 rfl ?_
  refine k_new hK knf_X11_7 dX11_init_5 rfl rfl (by decide) (by decide) (fun a1 => ?_)
  show kW K G A 2 8 [(0, .ref q)] [.ref a1, .ref q] ((q, .inr (10, [.null, .null, .null, .null, .null, .null, .null, .null, .null, .long 0])) :: ([] ++ [(a1, .inr (7, [.null, .int 0, .int 0, .int 0, .int 0, .int 0]))])) 1 6
  refine k_dup hK dX11_init_8 rfl ?_
  refine k_callN hK [] (pre := ((q, .inr (10, [.null, .null, .null, .null, .null, .null, .null, .null, .null, .long 0])) :: [])) (suf := [(a1, .inr (7, [.null, .int 0, .int 0, .int 0, .int 0, .int 0]))]) (kc_X8 K.2.1 G a1) kif_X8 (host := RX11) (List.mem_of_getElem? (i := 0) rfl) rfl [.ref a1, .ref q] rfl (Nat.le_of_ble_eq_true rfl) ⟨Nat.le_of_ble_eq_true rfl, Nat.le_of_ble_eq_true rfl⟩ rfl dX11_init_9 rfl rfl (by decide) (by decide) (fun v2 => ?_)
  show kW K G A 2 12 [(0, .ref q)] [.ref a1, .ref q] ((q, .inr (10, [.null, .null, .null, .null, .null, .null, .null, .null, .null, .long 0])) :: ([] ++ kp_X8 G a1 v2)) 2 1006
  refine k_putF hK hN kff_X11_10_10  rfl rfl (Nat.le_of_ble_eq_true rfl) (fs' := [.ref a1, .null, .null, .null, .null, .null, .null, .null, .null, .long 0]) rfl dX11_init_12 ?_
  refine k_aload_n hK 0 dX11_init_15 rfl ?_
  refine k_new hK knf_X11_16 dX11_init_16 rfl rfl (by decide) (by decide) (fun a3 => ?_)
  show kW K G A 2 19 [(0, .ref q)] [.ref a3, .ref q] ((q, .inr (10, [.ref a1, .null, .null, .null, .null, .null, .null, .null, .null, .long 0])) :: (([] ++ kp_X8 G a1 v2) ++ [(a3, .inr (4, [.null, .null, .null, .null, .null, .null, .null, .int 0, .int 0, .int 0, .int 0]))])) 3 1017
  refine k_dup hK dX11_init_19 rfl ?_
  refine k_callN hK [] (pre := ((q, .inr (10, [.ref a1, .null, .null, .null, .null, .null, .null, .null, .null, .long 0])) :: ([] ++ kp_X8 G a1 v2))) (suf := [(a3, .inr (4, [.null, .null, .null, .null, .null, .null, .null, .int 0, .int 0, .int 0, .int 0]))]) (kc_X5 K.2.1 G a3) kif_X5 (host := RX11) (List.mem_of_getElem? (i := 1) rfl) rfl [.ref a3, .ref q] rfl (Nat.le_of_ble_eq_true rfl) ⟨Nat.le_of_ble_eq_true rfl, Nat.le_of_ble_eq_true rfl⟩ rfl dX11_init_20 rfl rfl (by decide) (by decide) (fun v4 => ?_)
  show kW K G A 2 23 [(0, .ref q)] [.ref a3, .ref q] ((q, .inr (10, [.ref a1, .null, .null, .null, .null, .null, .null, .null, .null, .long 0])) :: (([] ++ kp_X8 G a1 v2) ++ kp_X5 G a3 v4)) 12 2145
  refine k_putF hK hN kff_X11_19_10  rfl rfl (Nat.le_of_ble_eq_true rfl) (fs' := [.ref a1, .ref a3, .null, .null, .null, .null, .null, .null, .null, .long 0]) rfl dX11_init_23 ?_
  refine k_aload_n hK 0 dX11_init_26 rfl ?_
  refine k_new hK knf_X11_23 dX11_init_27 rfl rfl (by decide) (by decide) (fun a5 => ?_)
  show kW K G A 2 30 [(0, .ref q)] [.ref a5, .ref q] ((q, .inr (10, [.ref a1, .ref a3, .null, .null, .null, .null, .null, .null, .null, .long 0])) :: ((([] ++ kp_X8 G a1 v2) ++ kp_X5 G a3 v4) ++ [(a5, .inr (5, [.null, .null, .int 0, .int 0, .null, .int 0]))])) 13 2151
  refine k_dup hK dX11_init_30 rfl ?_
  refine k_aload_n hK 0 dX11_init_31 rfl ?_
  refine k_get hK kgf_X11_10_10 0 rfl rfl dX11_init_32 ?_
  refine k_new hK knf_X11_16 dX11_init_35 rfl rfl (by decide) (by decide) (fun a6 => ?_)
  show kW K G A 2 38 [(0, .ref q)] [.ref a6, .ref a1, .ref a5, .ref a5, .ref q] ((q, .inr (10, [.ref a1, .ref a3, .null, .null, .null, .null, .null, .null, .null, .long 0])) :: (((([] ++ kp_X8 G a1 v2) ++ kp_X5 G a3 v4) ++ [(a5, .inr (5, [.null, .null, .int 0, .int 0, .null, .int 0]))]) ++ [(a6, .inr (4, [.null, .null, .null, .null, .null, .null, .null, .int 0, .int 0, .int 0, .int 0]))])) 14 2162
  refine k_dup hK dX11_init_38 rfl ?_
  refine k_callN hK [] (pre := ((q, .inr (10, [.ref a1, .ref a3, .null, .null, .null, .null, .null, .null, .null, .long 0])) :: ((([] ++ kp_X8 G a1 v2) ++ kp_X5 G a3 v4) ++ [(a5, .inr (5, [.null, .null, .int 0, .int 0, .null, .int 0]))]))) (suf := [(a6, .inr (4, [.null, .null, .null, .null, .null, .null, .null, .int 0, .int 0, .int 0, .int 0]))]) (kc_X5 K.2.1 G a6) kif_X5 (host := RX11) (List.mem_of_getElem? (i := 1) rfl) rfl [.ref a6, .ref a1, .ref a5, .ref a5, .ref q] rfl (Nat.le_of_ble_eq_true rfl) ⟨Nat.le_of_ble_eq_true rfl, Nat.le_of_ble_eq_true rfl⟩ rfl dX11_init_39 rfl rfl (by decide) (by decide) (fun v7 => ?_)
  show kW K G A 2 42 [(0, .ref q)] [.ref a6, .ref a1, .ref a5, .ref a5, .ref q] ((q, .inr (10, [.ref a1, .ref a3, .null, .null, .null, .null, .null, .null, .null, .long 0])) :: (((([] ++ kp_X8 G a1 v2) ++ kp_X5 G a3 v4) ++ [(a5, .inr (5, [.null, .null, .int 0, .int 0, .null, .int 0]))]) ++ kp_X5 G a6 v7)) 23 3290
  refine k_callI hK [.ref a1, .ref a6] (pre := ((q, .inr (10, [.ref a1, .ref a3, .null, .null, .null, .null, .null, .null, .null, .long 0])) :: (([] ++ kp_X8 G a1 v2) ++ kp_X5 G a3 v4))) (kc_X6 K.2.1 G a5 a1 a6 (v7 6) (kpF_X5 v7) (kpX_X5 G v7) rfl) kif_X6 q_285 rfl [.ref a5, .ref q] rfl (Nat.le_of_ble_eq_true rfl) ⟨Nat.le_of_ble_eq_true rfl, Nat.le_of_ble_eq_true rfl⟩ (congrArg (List.cons (q, .inr (10, [.ref a1, .ref a3, .null, .null, .null, .null, .null, .null, .null, .long 0]))) (List.append_assoc (([] ++ kp_X8 G a1 v2) ++ kp_X5 G a3 v4) ([(a5, .inr (5, [.null, .null, .int 0, .int 0, .null, .int 0]))]) (kp_X5 G a6 v7))) dX11_init_42 rfl rfl (by decide) (by decide) (fun v8 => ?_)
  show kW K G A 2 45 [(0, .ref q)] [.ref a5, .ref q] ((q, .inr (10, [.ref a1, .ref a3, .null, .null, .null, .null, .null, .null, .null, .long 0])) :: ((([] ++ kp_X8 G a1 v2) ++ kp_X5 G a3 v4) ++ kp_X6 G a5 a1 a6 (v7 6) (kpF_X5 v7) (kpX_X5 G v7) v8)) 25 3329
  refine k_putF hK hN kff_X11_28_10  rfl rfl (Nat.le_of_ble_eq_true rfl) (fs' := [.ref a1, .ref a3, .ref a5, .null, .null, .null, .null, .null, .null, .long 0]) rfl dX11_init_45 ?_
  refine k_aload_n hK 0 dX11_init_48 rfl ?_
  refine k_new hK knf_X11_32 dX11_init_49 rfl rfl (by decide) (by decide) (fun a9 => ?_)
  show kW K G A 2 52 [(0, .ref q)] [.ref a9, .ref q] ((q, .inr (10, [.ref a1, .ref a3, .ref a5, .null, .null, .null, .null, .null, .null, .long 0])) :: (((([] ++ kp_X8 G a1 v2) ++ kp_X5 G a3 v4) ++ kp_X6 G a5 a1 a6 (v7 6) (kpF_X5 v7) (kpX_X5 G v7) v8) ++ [(a9, .inr (9, [.null, .null, .int 0, .int 0, .null]))])) 26 3334
  refine k_dup hK dX11_init_52 rfl ?_
  refine k_aload_n hK 0 dX11_init_53 rfl ?_
  refine k_get hK kgf_X11_10_10 0 rfl rfl dX11_init_54 ?_
  refine k_aload_n hK 0 dX11_init_57 rfl ?_
  refine k_get hK kgf_X11_19_10 0 rfl rfl dX11_init_58 ?_
  refine k_callI hK [.ref a1, .ref a3] (pre := ((q, .inr (10, [.ref a1, .ref a3, .ref a5, .null, .null, .null, .null, .null, .null, .long 0])) :: ((([] ++ kp_X8 G a1 v2) ++ kp_X5 G a3 v4) ++ kp_X6 G a5 a1 a6 (v7 6) (kpF_X5 v7) (kpX_X5 G v7) v8))) (suf := [(a9, .inr (9, [.null, .null, .int 0, .int 0, .null]))]) (kc_X10 K.2.1 G a9 a1 a3) kif_X10 q_352 rfl [.ref a9, .ref q] rfl (Nat.le_of_ble_eq_true rfl) ⟨Nat.le_of_ble_eq_true rfl, Nat.le_of_ble_eq_true rfl⟩ rfl dX11_init_61 rfl rfl (by decide) (by decide) (fun v10 => ?_)
  show kW K G A 2 64 [(0, .ref q)] [.ref a9, .ref q] ((q, .inr (10, [.ref a1, .ref a3, .ref a5, .null, .null, .null, .null, .null, .null, .long 0])) :: (((([] ++ kp_X8 G a1 v2) ++ kp_X5 G a3 v4) ++ kp_X6 G a5 a1 a6 (v7 6) (kpF_X5 v7) (kpX_X5 G v7) v8) ++ kp_X10 G a9 a1 a3 v10)) 28 3376
  refine k_putF hK hN kff_X11_35_10  rfl rfl (Nat.le_of_ble_eq_true rfl) (fs' := [.ref a1, .ref a3, .ref a5, .ref a9, .null, .null, .null, .null, .null, .long 0]) rfl dX11_init_64 ?_
  refine k_aload_n hK 0 dX11_init_67 rfl ?_
  refine k_new hK knf_X11_39 dX11_init_68 rfl rfl (by decide) (by decide) (fun a11 => ?_)
  show kW K G A 2 71 [(0, .ref q)] [.ref a11, .ref q] ((q, .inr (10, [.ref a1, .ref a3, .ref a5, .ref a9, .null, .null, .null, .null, .null, .long 0])) :: ((((([] ++ kp_X8 G a1 v2) ++ kp_X5 G a3 v4) ++ kp_X6 G a5 a1 a6 (v7 6) (kpF_X5 v7) (kpX_X5 G v7) v8) ++ kp_X10 G a9 a1 a3 v10) ++ [(a11, .inr (6, [.null, .null, .null, .null, .int 0, .int 0]))])) 29 3382
  refine k_dup hK dX11_init_71 rfl ?_
  refine k_aload_n hK 0 dX11_init_72 rfl ?_
  refine k_get hK kgf_X11_19_10 0 rfl rfl dX11_init_73 ?_
  refine k_callI hK [.ref a3] (pre := ((q, .inr (10, [.ref a1, .ref a3, .ref a5, .ref a9, .null, .null, .null, .null, .null, .long 0])) :: (((([] ++ kp_X8 G a1 v2) ++ kp_X5 G a3 v4) ++ kp_X6 G a5 a1 a6 (v7 6) (kpF_X5 v7) (kpX_X5 G v7) v8) ++ kp_X10 G a9 a1 a3 v10))) (suf := [(a11, .inr (6, [.null, .null, .null, .null, .int 0, .int 0]))]) (kc_X7 K.2.1 G a11 a3) kif_X7 q_384 rfl [.ref a11, .ref q] rfl (Nat.le_of_ble_eq_true rfl) ⟨Nat.le_of_ble_eq_true rfl, Nat.le_of_ble_eq_true rfl⟩ rfl dX11_init_76 rfl rfl (by decide) (by decide) (fun v12 => ?_)
  show kW K G A 2 79 [(0, .ref q)] [.ref a11, .ref q] ((q, .inr (10, [.ref a1, .ref a3, .ref a5, .ref a9, .null, .null, .null, .null, .null, .long 0])) :: ((((([] ++ kp_X8 G a1 v2) ++ kp_X5 G a3 v4) ++ kp_X6 G a5 a1 a6 (v7 6) (kpF_X5 v7) (kpX_X5 G v7) v8) ++ kp_X10 G a9 a1 a3 v10) ++ kp_X7 G a11 a3 v12)) 32 3487
  refine k_putF hK hN kff_X11_44_10  rfl rfl (Nat.le_of_ble_eq_true rfl) (fs' := [.ref a1, .ref a3, .ref a5, .ref a9, .ref a11, .null, .null, .null, .null, .long 0]) rfl dX11_init_79 ?_
  refine k_aload_n hK 0 dX11_init_82 rfl ?_
  refine k_new hK knf_X11_39 dX11_init_83 rfl rfl (by decide) (by decide) (fun a13 => ?_)
  show kW K G A 2 86 [(0, .ref q)] [.ref a13, .ref q] ((q, .inr (10, [.ref a1, .ref a3, .ref a5, .ref a9, .ref a11, .null, .null, .null, .null, .long 0])) :: (((((([] ++ kp_X8 G a1 v2) ++ kp_X5 G a3 v4) ++ kp_X6 G a5 a1 a6 (v7 6) (kpF_X5 v7) (kpX_X5 G v7) v8) ++ kp_X10 G a9 a1 a3 v10) ++ kp_X7 G a11 a3 v12) ++ [(a13, .inr (6, [.null, .null, .null, .null, .int 0, .int 0]))])) 33 3493
  refine k_dup hK dX11_init_86 rfl ?_
  refine k_aload_n hK 0 dX11_init_87 rfl ?_
  refine k_get hK kgf_X11_19_10 0 rfl rfl dX11_init_88 ?_
  refine k_callI hK [.ref a3] (pre := ((q, .inr (10, [.ref a1, .ref a3, .ref a5, .ref a9, .ref a11, .null, .null, .null, .null, .long 0])) :: ((((([] ++ kp_X8 G a1 v2) ++ kp_X5 G a3 v4) ++ kp_X6 G a5 a1 a6 (v7 6) (kpF_X5 v7) (kpX_X5 G v7) v8) ++ kp_X10 G a9 a1 a3 v10) ++ kp_X7 G a11 a3 v12))) (suf := [(a13, .inr (6, [.null, .null, .null, .null, .int 0, .int 0]))]) (kc_X7 K.2.1 G a13 a3) kif_X7 q_384 rfl [.ref a13, .ref q] rfl (Nat.le_of_ble_eq_true rfl) ⟨Nat.le_of_ble_eq_true rfl, Nat.le_of_ble_eq_true rfl⟩ rfl dX11_init_91 rfl rfl (by decide) (by decide) (fun v14 => ?_)
  show kW K G A 2 94 [(0, .ref q)] [.ref a13, .ref q] ((q, .inr (10, [.ref a1, .ref a3, .ref a5, .ref a9, .ref a11, .null, .null, .null, .null, .long 0])) :: (((((([] ++ kp_X8 G a1 v2) ++ kp_X5 G a3 v4) ++ kp_X6 G a5 a1 a6 (v7 6) (kpF_X5 v7) (kpX_X5 G v7) v8) ++ kp_X10 G a9 a1 a3 v10) ++ kp_X7 G a11 a3 v12) ++ kp_X7 G a13 a3 v14)) 36 3598
  refine k_putF hK hN kff_X11_48_10  rfl rfl (Nat.le_of_ble_eq_true rfl) (fs' := [.ref a1, .ref a3, .ref a5, .ref a9, .ref a11, .ref a13, .null, .null, .null, .long 0]) rfl dX11_init_94 ?_
  refine k_aload_n hK 0 dX11_init_97 rfl ?_
  refine k_new hK knf_X11_51 dX11_init_98 rfl rfl (by decide) (by decide) (fun a15 => ?_)
  show kW K G A 2 101 [(0, .ref q)] [.ref a15, .ref q] ((q, .inr (10, [.ref a1, .ref a3, .ref a5, .ref a9, .ref a11, .ref a13, .null, .null, .null, .long 0])) :: ((((((([] ++ kp_X8 G a1 v2) ++ kp_X5 G a3 v4) ++ kp_X6 G a5 a1 a6 (v7 6) (kpF_X5 v7) (kpX_X5 G v7) v8) ++ kp_X10 G a9 a1 a3 v10) ++ kp_X7 G a11 a3 v12) ++ kp_X7 G a13 a3 v14) ++ [(a15, .inr (2, [.null, .null, .int 0, .int 0, .int 0]))])) 37 3603
  refine k_dup hK dX11_init_101 rfl ?_
  refine k_aload_n hK 0 dX11_init_102 rfl ?_
  refine k_get hK kgf_X11_19_10 0 rfl rfl dX11_init_103 ?_
  refine k_callI hK [.ref a3] (pre := ((q, .inr (10, [.ref a1, .ref a3, .ref a5, .ref a9, .ref a11, .ref a13, .null, .null, .null, .long 0])) :: (((((([] ++ kp_X8 G a1 v2) ++ kp_X5 G a3 v4) ++ kp_X6 G a5 a1 a6 (v7 6) (kpF_X5 v7) (kpX_X5 G v7) v8) ++ kp_X10 G a9 a1 a3 v10) ++ kp_X7 G a11 a3 v12) ++ kp_X7 G a13 a3 v14))) (suf := [(a15, .inr (2, [.null, .null, .int 0, .int 0, .int 0]))]) (kc_X2 K.2.1 G a15 a3) kif_X2 q_414 rfl [.ref a15, .ref q] rfl (Nat.le_of_ble_eq_true rfl) ⟨Nat.le_of_ble_eq_true rfl, Nat.le_of_ble_eq_true rfl⟩ rfl dX11_init_106 rfl rfl (by decide) (by decide) (fun v16 => ?_)
  show kW K G A 2 109 [(0, .ref q)] [.ref a15, .ref q] ((q, .inr (10, [.ref a1, .ref a3, .ref a5, .ref a9, .ref a11, .ref a13, .null, .null, .null, .long 0])) :: ((((((([] ++ kp_X8 G a1 v2) ++ kp_X5 G a3 v4) ++ kp_X6 G a5 a1 a6 (v7 6) (kpF_X5 v7) (kpX_X5 G v7) v8) ++ kp_X10 G a9 a1 a3 v10) ++ kp_X7 G a11 a3 v12) ++ kp_X7 G a13 a3 v14) ++ kp_X2 G a15 a3 v16)) 43 3756
  refine k_putF hK hN kff_X11_54_10  rfl rfl (Nat.le_of_ble_eq_true rfl) (fs' := [.ref a1, .ref a3, .ref a5, .ref a9, .ref a11, .ref a13, .ref a15, .null, .null, .long 0]) rfl dX11_init_109 ?_
  refine k_aload_n hK 0 dX11_init_112 rfl ?_
  refine k_iconst (v := 4) hK dX11_init_113 (by decide) ?_
  refine k_newq hK 5 q_412 (fun h => h.2.2.1) rfl (N' := 4) (by decide) (by decide) (by decide) dX11_init_114 rfl rfl (by decide) (by decide) (fun a17 => ?_)
  show kW K G A 2 117 [(0, .ref q)] [.ref a17, .ref q] ((q, .inr (10, [.ref a1, .ref a3, .ref a5, .ref a9, .ref a11, .ref a13, .ref a15, .null, .null, .long 0])) :: (((((((([] ++ kp_X8 G a1 v2) ++ kp_X5 G a3 v4) ++ kp_X6 G a5 a1 a6 (v7 6) (kpF_X5 v7) (kpX_X5 G v7) v8) ++ kp_X10 G a9 a1 a3 v10) ++ kp_X7 G a11 a3 v12) ++ kp_X7 G a13 a3 v14) ++ kp_X2 G a15 a3 v16) ++ [(a17, .inl (G.2.2.1.1 25, 4, .inr (.inr (.inr (.inr (fun _ => none))))))])) 44 3760
  refine k_putF hK hN kff_X11_58_10  rfl rfl (Nat.le_of_ble_eq_true rfl) (fs' := [.ref a1, .ref a3, .ref a5, .ref a9, .ref a11, .ref a13, .ref a15, .ref a17, .null, .long 0]) rfl dX11_init_117 ?_
  refine k_iconst (v := 0) hK dX11_init_120 (by decide) ?_
  refine k_istore_n (lv' := [(1, .int 0), (0, .ref q)]) hK dX11_init_121 (by decide) rfl ?_
  refine k_world (ws' := kMw ((q, .inr (10, [.ref a1, .ref a3, .ref a5, .ref a9, .ref a11, .ref a13, .ref a15, .ref a17, .null, .long 0])) :: ((((((([] ++ kp_X8 G a1 v2) ++ kp_X5 G a3 v4) ++ kp_X6 G a5 a1 a6 (v7 6) (kpF_X5 v7) (kpX_X5 G v7) v8) ++ kp_X10 G a9 a1 a3 v10) ++ kp_X7 G a11 a3 v12) ++ kp_X7 G a13 a3 v14) ++ kp_X2 G a15 a3 v16)) G a17 a3 (fun _ => 0) 0) ?_ ?_
  · unfold kMw
    rw [show kRf (fun _ => 0) 7 0 = (fun _ => none) from funext (fun j => if_neg (Nat.not_lt_zero j))]
    rfl
  refine kvloop hK (pre := ((q, .inr (10, [.ref a1, .ref a3, .ref a5, .ref a9, .ref a11, .ref a13, .ref a15, .ref a17, .null, .long 0])) :: ((((((([] ++ kp_X8 G a1 v2) ++ kp_X5 G a3 v4) ++ kp_X6 G a5 a1 a6 (v7 6) (kpF_X5 v7) (kpX_X5 G v7) v8) ++ kp_X10 G a9 a1 a3 v10) ++ kp_X7 G a11 a3 v12) ++ kp_X7 G a13 a3 v14) ++ kp_X2 G a15 a3 v16))) (q := q) (am := a17) (r := a3) rfl rfl rfl 44 3760 (by decide) (by decide) (by decide) (by decide) (fun vm => ?_) 4 0 (fun _ => 0) rfl
  show kW K G A 2 150 [(1, .int 4), (0, .ref q)] [] ((q, .inr (10, [.ref a1, .ref a3, .ref a5, .ref a9, .ref a11, .ref a13, .ref a15, .ref a17, .null, .long 0])) :: (((((((([] ++ kp_X8 G a1 v2) ++ kp_X5 G a3 v4) ++ kp_X6 G a5 a1 a6 (v7 6) (kpF_X5 v7) (kpX_X5 G v7) v8) ++ kp_X10 G a9 a1 a3 v10) ++ kp_X7 G a11 a3 v12) ++ kp_X7 G a13 a3 v14) ++ kp_X2 G a15 a3 v16) ++ ((a17, .inl (G.2.2.1.1 25, 4, .inr (.inr (.inr (.inr (kRf vm 7 4)))))) :: kMo G (a3) vm 4))) 72 4392
  refine k_aload_n hK 1 dX11_init_150 rfl ?_
  refine k_new hK knf_X11_62 dX11_init_151 rfl rfl (by decide) (by decide) (fun a18 => ?_)
  show kW K G A 2 154 [(1, .int 4), (0, .ref q)] [.ref a18, .ref q] ((q, .inr (10, [.ref a1, .ref a3, .ref a5, .ref a9, .ref a11, .ref a13, .ref a15, .ref a17, .null, .long 0])) :: ((((((((([] ++ kp_X8 G a1 v2) ++ kp_X5 G a3 v4) ++ kp_X6 G a5 a1 a6 (v7 6) (kpF_X5 v7) (kpX_X5 G v7) v8) ++ kp_X10 G a9 a1 a3 v10) ++ kp_X7 G a11 a3 v12) ++ kp_X7 G a13 a3 v14) ++ kp_X2 G a15 a3 v16) ++ ((a17, .inl (G.2.2.1.1 25, 4, .inr (.inr (.inr (.inr (kRf vm 7 4)))))) :: kMo G (a3) vm 4)) ++ [(a18, .inr (3, [.null, .int 0, .int 0]))])) 73 4395
  refine k_dup hK dX11_init_154 rfl ?_
  refine k_aload_n hK 1 dX11_init_155 rfl ?_
  refine k_get hK kgf_X11_19_10 0 rfl rfl dX11_init_156 ?_
  refine k_callI hK [.ref a3] (pre := ((q, .inr (10, [.ref a1, .ref a3, .ref a5, .ref a9, .ref a11, .ref a13, .ref a15, .ref a17, .null, .long 0])) :: (((((((([] ++ kp_X8 G a1 v2) ++ kp_X5 G a3 v4) ++ kp_X6 G a5 a1 a6 (v7 6) (kpF_X5 v7) (kpX_X5 G v7) v8) ++ kp_X10 G a9 a1 a3 v10) ++ kp_X7 G a11 a3 v12) ++ kp_X7 G a13 a3 v14) ++ kp_X2 G a15 a3 v16) ++ ((a17, .inl (G.2.2.1.1 25, 4, .inr (.inr (.inr (.inr (kRf vm 7 4)))))) :: kMo G (a3) vm 4)))) (suf := [(a18, .inr (3, [.null, .int 0, .int 0]))]) (kc_X3 K.2.1 G a18 a3) kif_X3 q_445 rfl [.ref a18, .ref q] rfl (Nat.le_of_ble_eq_true rfl) ⟨Nat.le_of_ble_eq_true rfl, Nat.le_of_ble_eq_true rfl⟩ rfl dX11_init_159 rfl rfl (by decide) (by decide) (fun v19 => ?_)
  show kW K G A 2 162 [(1, .int 4), (0, .ref q)] [.ref a18, .ref q] ((q, .inr (10, [.ref a1, .ref a3, .ref a5, .ref a9, .ref a11, .ref a13, .ref a15, .ref a17, .null, .long 0])) :: ((((((((([] ++ kp_X8 G a1 v2) ++ kp_X5 G a3 v4) ++ kp_X6 G a5 a1 a6 (v7 6) (kpF_X5 v7) (kpX_X5 G v7) v8) ++ kp_X10 G a9 a1 a3 v10) ++ kp_X7 G a11 a3 v12) ++ kp_X7 G a13 a3 v14) ++ kp_X2 G a15 a3 v16) ++ ((a17, .inl (G.2.2.1.1 25, 4, .inr (.inr (.inr (.inr (kRf vm 7 4)))))) :: kMo G (a3) vm 4)) ++ kp_X3 G a18 a3 v19)) 138 6187
  refine k_putF hK hN kff_X11_65_10  rfl rfl (Nat.le_of_ble_eq_true rfl) (fs' := [.ref a1, .ref a3, .ref a5, .ref a9, .ref a11, .ref a13, .ref a15, .ref a17, .ref a18, .long 0]) rfl dX11_init_162 ?_
  obtain ⟨u0, e0, e1, e2⟩ := k3f (fun i => [a1, v2 0, a3, v4 0, v4 1, v4 2, v4 3, v4 4, v4 5, v4 6, v4 7, v4 8, a5, a6, v7 0, v7 1, v7 2, v7 3, v7 4, v7 5, v7 6, v7 7, v7 8, v8 0, v8 1, a9, v10 0, v10 1, a11, v12 0, v12 1, v12 2, a13, v14 0, v14 1, v14 2, a15, v16 0, v16 1, v16 2, v16 3, v16 4, v16 5, a17, a18].getD i 0) vm v19
  refine k_vret hK hN hE u0 ?_ (by decide) (by decide) dX11_init_165
  show kq_X11 G q (fun j => u0 (3 * j)) (fun j => u0 (3 * j + 1)) (fun j => u0 (3 * j + 2)) = _
  rw [e0, e1, e2]
  rfl
