/-! the law's switch and loop -/
theorem l_and (x : Int32) : ∃ c, c < 32 ∧ x &&& 31 = nI c := by
  refine ⟨(x &&& 31).toBitVec.toNat, ?_, ?_⟩
  · have e : (x &&& 31).toBitVec = x.toBitVec &&& 31#32 := rfl
    rw [e, BitVec.toNat_and]
    exact Nat.lt_of_le_of_lt Nat.and_le_right (by decide)
  · show x &&& 31 = Int32.ofNat _
    apply Int32.toBitVec_inj.mp
    show _ = BitVec.ofNat 32 _
    exact (BitVec.ofNat_toNat 32 _).symm ▸ (BitVec.setWidth_eq _).symm
set_option maxHeartbeats 1000000 in
theorem l_sw {K : zK} {G : zG} {b L j k n : Nat} {xs : Nat → Int32} {h : zH} (hI : lI K G b L xs j k n) (hF : lFin K G b j k n) (H : Rel h) {c : Nat} (hc : c < 32) : kW K G (lA K) 7 40 (lv0 G b (nI (7 * j))) [.int (nI c)] (zL G h) k n := by
  obtain ⟨hK, hX, hj, hL, hk, hn⟩ := id hI
  match c, hc with
  | 0, _ => exact k_tableIn hK 176 dL_law_40 (by decide) (by decide) rfl (by decide) (lc_0 hI hF H)
  | 1, _ => exact k_tableIn hK 323 dL_law_40 (by decide) (by decide) rfl (by decide) (lc_1 hI hF H)
  | 2, _ => exact k_tableIn hK 336 dL_law_40 (by decide) (by decide) rfl (by decide) (lc_2 hI hF H)
  | 3, _ => exact k_tableIn hK 349 dL_law_40 (by decide) (by decide) rfl (by decide) (lc_3 hI hF H)
  | 4, _ => exact k_tableIn hK 386 dL_law_40 (by decide) (by decide) rfl (by decide) (lc_4 hI hF H)
  | 5, _ => exact k_tableIn hK 423 dL_law_40 (by decide) (by decide) rfl (by decide) (lc_5 hI hF H)
  | 6, _ => exact k_tableIn hK 460 dL_law_40 (by decide) (by decide) rfl (by decide) (lc_6 hI hF H)
  | 7, _ => exact k_tableIn hK 473 dL_law_40 (by decide) (by decide) rfl (by decide) (lc_7 hI hF H)
  | 8, _ => exact k_tableIn hK 486 dL_law_40 (by decide) (by decide) rfl (by decide) (lc_8 hI hF H)
  | 9, _ => exact k_tableIn hK 523 dL_law_40 (by decide) (by decide) rfl (by decide) (lc_9 hI hF H)
  | 10, _ => exact k_tableIn hK 560 dL_law_40 (by decide) (by decide) rfl (by decide) (lc_10 hI hF H)
  | 11, _ => exact k_tableIn hK 585 dL_law_40 (by decide) (by decide) rfl (by decide) (lc_11 hI hF H)
  | 12, _ => exact k_tableIn hK 598 dL_law_40 (by decide) (by decide) rfl (by decide) (lc_12 hI hF H)
  | 13, _ => exact k_tableIn hK 611 dL_law_40 (by decide) (by decide) rfl (by decide) (lc_13 hI hF H)
  | 14, _ => exact k_tableIn hK 636 dL_law_40 (by decide) (by decide) rfl (by decide) (lc_14 hI hF H)
  | 15, _ => exact k_tableIn hK 661 dL_law_40 (by decide) (by decide) rfl (by decide) (lc_15 hI hF H)
  | 16, _ => exact k_tableIn hK 686 dL_law_40 (by decide) (by decide) rfl (by decide) (lc_16 hI hF H)
  | 17, _ => exact k_tableIn hK 711 dL_law_40 (by decide) (by decide) rfl (by decide) (lc_17 hI hF H)
  | 18, _ => exact k_tableIn hK 724 dL_law_40 (by decide) (by decide) rfl (by decide) (lc_18 hI hF H)
  | 19, _ => exact k_tableIn hK 737 dL_law_40 (by decide) (by decide) rfl (by decide) (lc_19 hI hF H)
  | 20, _ => exact k_tableIn hK 762 dL_law_40 (by decide) (by decide) rfl (by decide) (lc_20 hI hF H)
  | 21, _ => exact k_tableIn hK 815 dL_law_40 (by decide) (by decide) rfl (by decide) (lc_21 hI hF H)
  | 22, _ => exact k_tableIn hK 840 dL_law_40 (by decide) (by decide) rfl (by decide) (lc_22 hI hF H)
  | 23, _ => exact k_tableIn hK 853 dL_law_40 (by decide) (by decide) rfl (by decide) (lc_23 hI hF H)
  | 24, _ => exact k_tableIn hK 902 dL_law_40 (by decide) (by decide) rfl (by decide) (lc_24 hI hF H)
  | 25, _ => exact k_tableIn hK 915 dL_law_40 (by decide) (by decide) rfl (by decide) (lc_25 hI hF H)
  | 26, _ => exact k_tableIn hK 1007 dL_law_40 (by decide) (by decide) rfl (by decide) (lc_26 hI hF H)
  | 27, _ => exact k_tableIn hK 1044 dL_law_40 (by decide) (by decide) rfl (by decide) (lc_27 hI hF H)
  | 28, _ => exact k_tableIn hK 1093 dL_law_40 (by decide) (by decide) rfl (by decide) (lc_28 hI hF H)
  | 29, _ => exact k_tableIn hK 1146 dL_law_40 (by decide) (by decide) rfl (by decide) (lc_29 hI hF H)
  | 30, _ => exact k_tableOut hK 1171 dL_law_40 (Or.inr (by decide)) (by decide) (k_widen (by omega) (by omega) (hF h H))
  | 31, _ => exact k_tableOut hK 1171 dL_law_40 (Or.inr (by decide)) (by decide) (k_widen (by omega) (by omega) (hF h H))
  | c + 32, hc => exact absurd hc (by omega)
theorem l_body {K : zK} {G : zG} {b L j k n : Nat} {xs : Nat → Int32} {h : zH} (hI : lI K G b L xs j k n) (hF : lFin K G b j k n) (H : Rel h) : kW K G (lA K) 7 33 (lv0 G b (nI (7 * j))) [] (zL G h) k n := by
  obtain ⟨hK, hX, hj, hL, hk, hn⟩ := id hI
  obtain ⟨c, hc, e⟩ := l_and (xs (7 * j))
  refine k_aload_n hK 4 dL_law_33 rfl ?_
  refine k_iload hK 0 dL_law_34 rfl ?_
  refine k_sld hK hX (zin_t (by omega) (by omega)) dL_law_36 ?_
  refine k_name (v := xs (7 * j)) (by rw [zx_nI (by omega)]) ?_
  refine k_bipush (v := 31) hK dL_law_37 (by decide) ?_
  refine k_iand hK dL_law_39 ?_
  exact k_name (v := nI c) e.symm (l_sw hI hF H hc)
theorem law_loop {K : zK} {G : zG} {b L : Nat} {xs : Nat → Int32} (hK : kC K G (lA K) cL_law RL 7 15 590 601024 7293034) (hX : lX K G b L xs) (hL : L ≤ 3584) (hE : ∀ (lv : List (Nat × Value)) (ws : va_W) (k n : Nat), k ≤ 601024 → n ≤ 7293034 → kW K G (lA K) 7 1178 lv [.int 1] ws k n) : ∀ d j h k n, L ≤ 7 * j + d → 7 * j ≤ L → Rel h → k ≤ 400 + j → n ≤ 20000 + 6 * j → kW K G (lA K) 7 23 (lv0 G b (nI (7 * j))) [] (zL G h) k n := by
  intro d
  induction d with
  | zero =>
    intro j h k n h1 h2 H hk hn
    refine k_iload hK 0 dL_law_23 rfl ?_
    refine k_aload_n hK 4 dL_law_25 rfl ?_
    refine k_slen hK hX dL_law_26 ?_
    refine k_bipush (v := 7) hK dL_law_27 (by decide) ?_
    refine k_isub hK dL_law_29 ?_
    refine k_icmp_gt hK 1177 dL_law_30 (by decide) (fun _ => ?_) (fun q => ?_)
    · exact k_iconst (v := 1) hK dL_law_1177 (by decide) (hE _ _ _ _ (by omega) (by omega))
    · exfalso
      apply q
      have e1 : (nI L - 7).toInt = (L : Int) - 7 := nI_sub (b := 7) (by omega) (by decide)
      have e2 : (nI (7 * j)).toInt = ((7 * j : Nat) : Int) := nI_toInt (by omega)
      rw [Int32.lt_iff_toInt_lt, e1, e2]
      omega
  | succ d ih =>
    intro j h k n h1 h2 H hk hn
    refine k_iload hK 0 dL_law_23 rfl ?_
    refine k_aload_n hK 4 dL_law_25 rfl ?_
    refine k_slen hK hX dL_law_26 ?_
    refine k_bipush (v := 7) hK dL_law_27 (by decide) ?_
    refine k_isub hK dL_law_29 ?_
    refine k_icmp_gt hK 1177 dL_law_30 (by decide) (fun _ => ?_) (fun q => ?_)
    · exact k_iconst (v := 1) hK dL_law_1177 (by decide) (hE _ _ _ _ (by omega) (by omega))
    · have hj : 7 * j + 7 ≤ L := by
        have e1 : (nI L - 7).toInt = (L : Int) - 7 := nI_sub (b := 7) (by omega) (by decide)
        have e2 : (nI (7 * j)).toInt = ((7 * j : Nat) : Int) := nI_toInt (by omega)
        rw [Int32.lt_iff_toInt_lt, e1, e2] at q
        omega
      refine l_body (hI := ⟨hK, hX, hj, hL, by omega, by omega⟩) (fun h' H' => ?_) H
      refine k_iinc (v := nI (7 * (j + 1))) (lv' := lv0 G b (nI (7 * (j + 1)))) hK 0 dL_law_1171 rfl ((nI_add (7 * j) 7).trans (by rw [show 7 * j + 7 = 7 * (j + 1) by omega])) (by decide) rfl ?_
      refine k_goto hK 23 dL_law_1174 (by decide) ?_
      exact ih (j + 1) h' (k + 1) (n + 6) (by omega) (by omega) H' (by omega) (by omega)
