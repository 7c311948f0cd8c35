/-! the class looks at the next token -/
theorem nI_sb {a b : Nat} (h : b ≤ a) : nI a - nI b = nI (a - b) := by
  have : nI (a - b) + nI b = nI a := by rw [nI_add]; congr 1; omega
  rw [← this]
  apply Int32.toBitVec_inj.mp
  simp only [Int32.toBitVec_add, Int32.toBitVec_sub]
  rw [BitVec.add_sub_cancel]
theorem zchar0 : ∀ i, i < 155 → g_J0_charAt_5068e z0 1 (nI i) = some (nI (zcds.getD i 0)) := by decide +kernel
theorem zchar_h (h g : zH) (x : Int32) : g_J0_charAt_5068e h 1 x = g_J0_charAt_5068e g 1 x := by
  simp only [g_J0_charAt_5068e, g_J1_charAt_3b067, g_J0_checkIndex_df160, g_J3_checkIndex_8e157, g_J3_checkIndex_8e157_9]
theorem zlen_1 (h : zH) : g_J0_length_8abf5 h 1 = some (nI 155) := by unfold g_J0_length_8abf5; decide
theorem zcds_len : zcds.length = 155 := by decide +kernel
section K4
variable {T : zTp} {q p : Nat} {h h' : zH} {A : Nat → Nat → Prop}
theorem tcs_len (T : zTp) (q n : Nat) : (tcs T q n).length = n := by unfold tcs; simp
theorem tcs_get {T : zTp} {q n j : Nat} (hj : j < n) : (tcs T q n).getD j 0 = T.2 (q + j) := by
  unfold tcs
  rw [List.getD_eq_getElem?_getD, List.getElem?_map, List.getElem?_range hj]; rfl
theorem zcds_c : ∀ i, i < 155 → zcds.getD i 0 ≤ 126 := by decide
theorem e_wordToken7 (I : TI T) (K : TC T h) {e : Nat} (hq : q ≤ e) (he : e ≤ T.1) (h8 : e - q ≤ 8) (e3 : h.1 1 3 = nI q) (e5 : h.1 1 5 = nI e) : ∀ cs i k a n, zcds.drop i = cs → i ≤ 155 → cs.length < n → (∀ j, a = some j → j ≤ e - q) → g_X8_wordToken_7 h 1 n (nI k) (zo a) (nI i) = some (nI (wsc (tcs T q (e - q)) cs k a)) := by
  have l := I.1
  intro cs
  induction cs with
  | nil =>
    intro i k a n hd hi hn ha
    obtain ⟨n, rfl⟩ : ∃ m, n = m + 1 := ⟨n - 1, by omega⟩
    have : 155 ≤ i := by
      have := congrArg List.length hd
      rw [List.length_drop, zcds_len] at this
      simp at this; omega
    rw [g_X8_wordToken_7, zlen_1, zbind_s, if_pos (by rw [znI_le (by decide) (by omega)]; omega)]; rfl
  | cons c cs ih =>
    intro i k a n hd hi hn ha
    obtain ⟨n, rfl⟩ : ∃ m, n = m + 1 := ⟨n - 1, by omega⟩
    have hil : i < 155 := by
      have := congrArg List.length hd
      rw [List.length_drop, zcds_len] at this
      simp at this; omega
    have hc : zcds.getD i 0 = c := by
      rw [List.drop_eq_getElem_cons (by rw [zcds_len]; exact hil)] at hd
      rw [List.getD_eq_getElem?_getD, List.getElem?_eq_getElem (by rw [zcds_len]; exact hil)]
      exact (List.cons.inj hd).1
    have hd2 : zcds.drop (i + 1) = cs := by
      rw [List.drop_eq_getElem_cons (by rw [zcds_len]; exact hil)] at hd
      exact (List.cons.inj hd).2
    have hc126 := zcds_c i hil
    rw [hc] at hc126
    have hch : g_J0_charAt_5068e h 1 (nI i) = some (nI c) := by rw [zchar_h h z0, zchar0 i hil, hc]
    simp only [List.length_cons] at hn
    rw [g_X8_wordToken_7, zlen_1, zbind_s, if_neg (by rw [znI_le (by decide) (by omega)]; omega), hch, zbind_s, e3, e5, nI_sb hq, wsc_cons]
    simp only [zeq_32 (show c < 2147483648 by omega), nI_1, tcs_len]
    simp only [zo_eq (s := a) (q := e - q) (fun b hb => by have := ha b hb; omega) (by omega)]
    by_cases c1 : c = 32
    · simp only [if_pos c1]
      by_cases c2 : a = some (e - q)
      · rw [if_pos c2, if_pos c2]
      · rw [if_neg c2, if_neg c2]
        exact ih (i + 1) (k + 1) (some 0) n hd2 (by omega) (by omega) (fun j hj => by cases hj; omega)
    · simp only [if_neg c1]
      cases a with
      | none =>
        rw [zo_none, if_pos (by decide)]
        exact ih (i + 1) k none n hd2 (by omega) (by omega) (fun j hj => by cases hj)
      | some j =>
        have hj := ha j rfl
        rw [zo_some, if_neg (nI_pos (by omega)), nI_add, nI_1]
        simp only
        by_cases c3 : j < e - q
        · rw [if_neg (by rw [znI_le (by omega) (by omega)]; omega), zin_t (by omega) (by omega), zgu_t, zx_nI (by omega)]
          simp only [zr_0_0, zr_0_1, zr_0_2, zr_0_3, zr_0_4, zr_0_5, zr_0_6, zr_0_7, zr_0_8, zr_1_0, zr_3_0, zr_3_1, zr_3_2, zr_3_3, zr_3_4, zr_3_5, zr_3_6, zr_10_0, zr_10_1, zr_13_0, zr_13_1, zr_13_4, zr_14_0, zr_14_1, zr_14_2, zr_14_3, zr_14_4, zr_14_5, zr_14_6, zr_21_0, zr_21_1, zr_24_0, zr_24_1, zr_24_2, zr_26_0, zr_26_1, zr_26_4, zr_27_0, zr_37_0, zr_37_1, zr_38_0, zr_44_0, zr_44_1, zr_44_2, zr_44_3, zr_45_0, zr_45_1, zr_52_0, zr_52_1, zr_59_0, zr_59_1, zr_66_0, zr_66_1, zr_73_0, zr_74_0, zr_74_1, zr_74_2, zr_74_3, zr_74_4, zr_74_5, zr_74_6, zr_74_7, zr_74_8, zr_74_9, zr_74_10, zr_74_11, zr_74_12, zr_74_13, zr_74_14, zr_74_15, zr_139_2, zr_139_10, zr_139_11, zr_139_12, zr_139_13, zr_139_14, zr_139_15, zr_139_16, zr_139_17, zr_139_18, zr_139_19, zr_139_20, zr_139_23, zr_139_24, zr_139_25, zr_139_26, zr_139_27, zr_139_28, zr_139_29, zr_139_30, zr_139_31, zr_139_32, zr_139_33, zr_139_34, zr_139_37, zr_139_38, zr_139_39, zr_139_40, zr_139_41, zr_139_42, zr_139_43, zr_139_44, zr_139_45, zr_139_46, zr_139_47, zr_139_48, zr_139_50]
          rw [K.2 (q + j) (by omega)]
          have hx := I.c (k := q + j) (by omega)
          simp only [znI_eq (show T.2 (q + j) < 2147483648 by omega) (show c < 2147483648 by omega), tcs_get c3, c3, true_and]
          by_cases c4 : T.2 (q + j) = c
          · rw [if_pos c4, if_pos c4]
            exact ih (i + 1) k (some (j + 1)) n hd2 (by omega) (by omega) (fun j hj => by cases hj; omega)
          · rw [if_neg c4, if_neg c4]
            exact ih (i + 1) k none n hd2 (by omega) (by omega) (fun j hj => by cases hj)
        · rw [if_pos (by rw [znI_le (by omega) (by omega)]; omega), if_neg (show ¬ (j < e - q ∧ (tcs T q (e - q)).getD j 0 = c) from fun z => c3 z.1)]
          exact ih (i + 1) k none n hd2 (by omega) (by omega) (fun j hj => by cases hj)
theorem e_wordToken (I : TI T) (K : TC T h) {e : Nat} (hq : q ≤ e) (he : e ≤ T.1) (h8 : e - q ≤ 8) (e3 : h.1 1 3 = nI q) (e5 : h.1 1 5 = nI e) : g_X8_wordToken h 1 = some (nI (tcl (tcs T q (e - q)) zwds 12)) := by
  have := e_wordToken7 I K hq he h8 e3 e5 zcds 0 12 (some 0) zfu rfl (by omega) (by rw [zcds_len]; decide) (fun j hj => by cases hj; omega)
  rw [zcds_eq, wsc_all _ _ zwds_32] at this
  exact this
def zsgi (c : Nat) : Int32 := if c = 40 then 0 else if c = 41 then 1 else if c = 60 then 2 else if c = 61 then 3 else if c = 43 then 4 else if c = 45 then 5 else if c = 42 then 6 else if c = 59 then 7 else -1
theorem zi8 : ∀ c, c < 127 → (nI c).toInt8.toInt32 = nI c := by decide +kernel
theorem zsgi_b : ∀ c, c < 127 → ((if (40 : Int32) = nI c then some (0 : Int32) else if (41 : Int32) = nI c then some 1 else if (60 : Int32) = nI c then some 2 else if (61 : Int32) = nI c then some 3 else if (43 : Int32) = nI c then some 4 else if (45 : Int32) = nI c then some 5 else if (42 : Int32) = nI c then some 6 else if (59 : Int32) = nI c then some 7 else some (-1)) = some (zsgi c)) := by decide +kernel
theorem e_indexOf {c : Nat} (hc : c < 127) : g_J0_indexOf_0f7a4 h 0 (nI c) = some (zsgi c) := by
  have hl : zlen.getD 0 0 = 8 := rfl
  have l0 : g_J0_length_8abf5 h 0 = some 8 := by unfold g_J0_length_8abf5; decide
  have c0 : ¬ nI c < 0 := nI_pos (by omega)
  have c255 : ¬ (255 : Int32) < nI c := fun z => by rw [show (255 : Int32) = nI 255 from rfl, znI_lt (by decide) (by omega)] at z; omega
  unfold g_J0_indexOf_0f7a4 g_J0_indexOf_7cf53
  rw [l0, zbind_s]
  unfold g_J1_indexOf_4cfef g_J1_canEncode_9a6ad
  rw [if_neg c0, if_neg c255, zbind_s, if_neg (by decide), hl, zlet_e, zlet_e, if_neg (show ¬ (0 : Int32) < 0 by decide), if_neg (show ¬ Int32.ofNat 8 < (8 : Int32) by decide), if_pos (show (0 : Int32) < 8 by decide)]
  unfold g_J1_indexOfChar_4cfef
  rw [zi8 c hc]
  obtain ⟨m, hm⟩ : ∃ m, zfu = m + 9 := ⟨3991, rfl⟩
  rw [hm]
  have z : ∀ i, i < 8 → zin (nI i) 8 = true := fun i hi => zin_t hi (by omega)
  have st : ∀ n i, i < 8 → g_J1_indexOfChar_4cfef_7 h 0 (n + 1) 8 (nI c) (nI i) = if (zby0.getD i 0) = nI c then some (nI i) else g_J1_indexOfChar_4cfef_7 h 0 n 8 (nI c) (nI (i + 1)) := by
    intro n i hi
    rw [g_J1_indexOfChar_4cfef_7, if_neg (by rw [zleL_8 (by omega)]; omega), hl, z i hi, zgu_t, zx_nI (by omega), nI_1]; rfl
  have e1 := st (m + 8) 0 (by omega)
  have e2 := st (m + 7) 1 (by omega)
  have e3 := st (m + 6) 2 (by omega)
  have e4 := st (m + 5) 3 (by omega)
  have e5 := st (m + 4) 4 (by omega)
  have e6 := st (m + 3) 5 (by omega)
  have e7 := st (m + 2) 6 (by omega)
  have e8 := st (m + 1) 7 (by omega)
  have e9 : g_J1_indexOfChar_4cfef_7 h 0 (m + 1) 8 (nI c) (nI (7 + 1)) = some (-1) := by rw [g_J1_indexOfChar_4cfef_7, if_pos (by decide)]
  have key : g_J1_indexOfChar_4cfef_7 h 0 (m + 9) 8 (nI c) 0 = some (zsgi c) := by
    rw [← zsgi_b c hc]
    refine Eq.trans e1 ?_
    rw [e2, e3, e4, e5, e6, e7, e8, e9]; rfl
  rw [key]; rfl
theorem zsg_ok : ∀ c, c < 127 → (if zsgi c < 0 then (1 : Int32) else 4 + zsgi c) = nI (tsg c) := by decide +kernel
def A3 : Nat → Nat → Prop := fun a k => a = 1 ∧ k = 3
theorem e_skip (I : TI T) : ∀ k p n h, k = T.1 - p → p ≤ T.1 → k < n → TC T h → h.1 1 3 = nI p → ∃ h', g_X8_lookAtNext_8 1 n h = g_X8_lookAtNext_47 1 h' ∧ h'.1 1 3 = nI (tq T p) ∧ zsm A3 h h' := by
  have l := I.1
  intro k
  induction k with
  | zero =>
    intro p n h hk hp hn K e
    obtain ⟨n, rfl⟩ : ∃ m, n = m + 1 := ⟨n - 1, by omega⟩
    refine ⟨h, ?_, by unfold tq; rw [zr_stop (f := fun k => isB (T.2 k)) (N := T.1) (p := p) (Or.inl (by omega))]; exact e, zsm.rf⟩
    rw [g_X8_lookAtNext_8, K.1, e, if_pos (by rw [znI_le (by omega) (by omega)]; omega)]
  | succ k ih =>
    intro p n h hk hp hn K e
    obtain ⟨n, rfl⟩ : ∃ m, n = m + 1 := ⟨n - 1, by omega⟩
    have hpl : p < T.1 := by omega
    rw [g_X8_lookAtNext_8, K.1, e]
    simp (disch := omega) only [zr_0_0, zr_0_1, zr_0_2, zr_0_3, zr_0_4, zr_0_5, zr_0_6, zr_0_7, zr_0_8, zr_1_0, zr_3_0, zr_3_1, zr_3_2, zr_3_3, zr_3_4, zr_3_5, zr_3_6, zr_10_0, zr_10_1, zr_13_0, zr_13_1, zr_13_4, zr_14_0, zr_14_1, zr_14_2, zr_14_3, zr_14_4, zr_14_5, zr_14_6, zr_21_0, zr_21_1, zr_24_0, zr_24_1, zr_24_2, zr_26_0, zr_26_1, zr_26_4, zr_27_0, zr_37_0, zr_37_1, zr_38_0, zr_44_0, zr_44_1, zr_44_2, zr_44_3, zr_45_0, zr_45_1, zr_52_0, zr_52_1, zr_59_0, zr_59_1, zr_66_0, zr_66_1, zr_73_0, zr_74_0, zr_74_1, zr_74_2, zr_74_3, zr_74_4, zr_74_5, zr_74_6, zr_74_7, zr_74_8, zr_74_9, zr_74_10, zr_74_11, zr_74_12, zr_74_13, zr_74_14, zr_74_15, zr_139_2, zr_139_10, zr_139_11, zr_139_12, zr_139_13, zr_139_14, zr_139_15, zr_139_16, zr_139_17, zr_139_18, zr_139_19, zr_139_20, zr_139_23, zr_139_24, zr_139_25, zr_139_26, zr_139_27, zr_139_28, zr_139_29, zr_139_30, zr_139_31, zr_139_32, zr_139_33, zr_139_34, zr_139_37, zr_139_38, zr_139_39, zr_139_40, zr_139_41, zr_139_42, zr_139_43, zr_139_44, zr_139_45, zr_139_46, zr_139_47, zr_139_48, zr_139_50, zin_t, zx_nI, nI_add, nI_mul, znI_le, znI_lt, znI_eq, znI_neg, zgu_t, zgu_f, zbind_s, zlet_e, zb_eq0, zb_eq1, zb_t, zb_f, zleL_0, zleR_0, zltL_0, zltR_0, zeq_0, zxl_0, zil_0, zmL_1, zmR_1, zaL_1, zaR_1, zleL_1, zleR_1, zltL_1, zltR_1, zeq_1, zxl_1, zil_1, zmL_2, zmR_2, zaL_2, zaR_2, zleL_2, zleR_2, zltL_2, zltR_2, zeq_2, zxl_2, zil_2, zmL_3, zmR_3, zaL_3, zaR_3, zleL_3, zleR_3, zltL_3, zltR_3, zeq_3, zxl_3, zil_3, zmL_4, zmR_4, zaL_4, zaR_4, zleL_4, zleR_4, zltL_4, zltR_4, zeq_4, zxl_4, zil_4, zmL_5, zmR_5, zaL_5, zaR_5, zleL_5, zleR_5, zltL_5, zltR_5, zeq_5, zxl_5, zil_5, zmL_6, zmR_6, zaL_6, zaR_6, zleL_6, zleR_6, zltL_6, zltR_6, zeq_6, zxl_6, zil_6, zmL_7, zmR_7, zaL_7, zaR_7, zleL_7, zleR_7, zltL_7, zltR_7, zeq_7, zxl_7, zil_7, zmL_8, zmR_8, zaL_8, zaR_8, zleL_8, zleR_8, zltL_8, zltR_8, zeq_8, zxl_8, zil_8, zmL_9, zmR_9, zaL_9, zaR_9, zleL_9, zleR_9, zltL_9, zltR_9, zeq_9, zxl_9, zil_9, zmL_10, zmR_10, zaL_10, zaR_10, zleL_10, zleR_10, zltL_10, zltR_10, zeq_10, zxl_10, zil_10, zmL_14, zmR_14, zaL_14, zaR_14, zleL_14, zleR_14, zltL_14, zltR_14, zeq_14, zxl_14, zil_14, zmL_15, zmR_15, zaL_15, zaR_15, zleL_15, zleR_15, zltL_15, zltR_15, zeq_15, zxl_15, zil_15, zmL_16, zmR_16, zaL_16, zaR_16, zleL_16, zleR_16, zltL_16, zltR_16, zeq_16, zxl_16, zil_16, zmL_20, zmR_20, zaL_20, zaR_20, zleL_20, zleR_20, zltL_20, zltR_20, zeq_20, zxl_20, zil_20, zmL_22, zmR_22, zaL_22, zaR_22, zleL_22, zleR_22, zltL_22, zltR_22, zeq_22, zxl_22, zil_22, zmL_23, zmR_23, zaL_23, zaR_23, zleL_23, zleR_23, zltL_23, zltR_23, zeq_23, zxl_23, zil_23, zmL_24, zmR_24, zaL_24, zaR_24, zleL_24, zleR_24, zltL_24, zltR_24, zeq_24, zxl_24, zil_24, zmL_25, zmR_25, zaL_25, zaR_25, zleL_25, zleR_25, zltL_25, zltR_25, zeq_25, zxl_25, zil_25, zmL_26, zmR_26, zaL_26, zaR_26, zleL_26, zleR_26, zltL_26, zltR_26, zeq_26, zxl_26, zil_26, zmL_32, zmR_32, zaL_32, zaR_32, zleL_32, zleR_32, zltL_32, zltR_32, zeq_32, zxl_32, zil_32, zmL_40, zmR_40, zaL_40, zaR_40, zleL_40, zleR_40, zltL_40, zltR_40, zeq_40, zxl_40, zil_40, zmL_49, zmR_49, zaL_49, zaR_49, zleL_49, zleR_49, zltL_49, zltR_49, zeq_49, zxl_49, zil_49, zmL_58, zmR_58, zaL_58, zaR_58, zleL_58, zleR_58, zltL_58, zltR_58, zeq_58, zxl_58, zil_58, zmL_99, zmR_99, zaL_99, zaR_99, zleL_99, zleR_99, zltL_99, zltR_99, zeq_99, zxl_99, zil_99, zmL_100, zmR_100, zaL_100, zaR_100, zleL_100, zleR_100, zltL_100, zltR_100, zeq_100, zxl_100, zil_100, zmL_107, zmR_107, zaL_107, zaR_107, zleL_107, zleR_107, zltL_107, zltR_107, zeq_107, zxl_107, zil_107, zmL_126, zmR_126, zaL_126, zaR_126, zleL_126, zleR_126, zltL_126, zltR_126, zeq_126, zxl_126, zil_126, zmL_1000, zmR_1000, zaL_1000, zaR_1000, zleL_1000, zleR_1000, zltL_1000, zltR_1000, zeq_1000, zxl_1000, zil_1000, zmL_1605, zmR_1605, zaL_1605, zaR_1605, zleL_1605, zleR_1605, zltL_1605, zltR_1605, zeq_1605, zxl_1605, zil_1605]
    rw [if_neg (by omega), K.2 p hpl, e_isB (I.c hpl)]
    simp only [zbind_s, zb_eq0]
    cases hl : isB (T.2 p)
    · simp only [if_true]
      exact ⟨h, rfl, by unfold tq; rw [zr_stop (f := fun k => isB (T.2 k)) (N := T.1) (p := p) (Or.inr hl)]; exact e, zsm.rf⟩
    · simp only [Bool.true_eq_false, if_false]
      have w1 : zsm A3 h (zpi h 1 3 (nI (p + 1))) := zsm.pi ⟨rfl, rfl⟩
      obtain ⟨h2, e2, k2, w2⟩ := ih (p + 1) n (zpi h 1 3 (nI (p + 1))) (by omega) (by omega) (by omega) (K.same w1 (by unfold A3; omega) (fun k => by unfold A3; omega)) (by rw [zpi_r, if_pos ⟨rfl, rfl⟩])
      refine ⟨h2, e2, ?_, w1.tr w2⟩
      rw [k2]
      unfold tq
      rw [zr_step (f := fun k => isB (T.2 k)) (N := T.1) (p := p) hpl hl]
def AT1 : Nat → Nat → Prop := fun a k => a = 1 ∧ 2 ≤ k ∧ k ≤ 5
theorem e_47 (I : TI T) (K : TC T h) (hq : q ≤ T.1) (e3 : h.1 1 3 = nI q) : ∃ h', g_X8_lookAtNext_47 1 h = some h' ∧ CT T q h' ∧ zsm AT1 h h' := by
  have l := I.1
  have w0 : zsm AT1 h (zpi h 1 5 (nI q)) := zsm.pi (by unfold AT1; omega)
  have K0 : TC T (zpi h 1 5 (nI q)) := K.same w0 (by unfold AT1; omega) (fun k => by unfold AT1; omega)
  have f3 : (zpi h 1 5 (nI q)).1 1 3 = nI q := by rw [zpi_r, if_neg (by omega)]; exact e3
  have f5 : (zpi h 1 5 (nI q)).1 1 5 = nI q := by rw [zpi_r, if_pos ⟨rfl, rfl⟩]
  unfold g_X8_lookAtNext_47
  rw [e3, zlet_e]
  generalize zpi h 1 5 (nI q) = h0 at *
  rw [f3, K0.1]
  simp (disch := omega) only [zr_0_0, zr_0_1, zr_0_2, zr_0_3, zr_0_4, zr_0_5, zr_0_6, zr_0_7, zr_0_8, zr_1_0, zr_3_0, zr_3_1, zr_3_2, zr_3_3, zr_3_4, zr_3_5, zr_3_6, zr_10_0, zr_10_1, zr_13_0, zr_13_1, zr_13_4, zr_14_0, zr_14_1, zr_14_2, zr_14_3, zr_14_4, zr_14_5, zr_14_6, zr_21_0, zr_21_1, zr_24_0, zr_24_1, zr_24_2, zr_26_0, zr_26_1, zr_26_4, zr_27_0, zr_37_0, zr_37_1, zr_38_0, zr_44_0, zr_44_1, zr_44_2, zr_44_3, zr_45_0, zr_45_1, zr_52_0, zr_52_1, zr_59_0, zr_59_1, zr_66_0, zr_66_1, zr_73_0, zr_74_0, zr_74_1, zr_74_2, zr_74_3, zr_74_4, zr_74_5, zr_74_6, zr_74_7, zr_74_8, zr_74_9, zr_74_10, zr_74_11, zr_74_12, zr_74_13, zr_74_14, zr_74_15, zr_139_2, zr_139_10, zr_139_11, zr_139_12, zr_139_13, zr_139_14, zr_139_15, zr_139_16, zr_139_17, zr_139_18, zr_139_19, zr_139_20, zr_139_23, zr_139_24, zr_139_25, zr_139_26, zr_139_27, zr_139_28, zr_139_29, zr_139_30, zr_139_31, zr_139_32, zr_139_33, zr_139_34, zr_139_37, zr_139_38, zr_139_39, zr_139_40, zr_139_41, zr_139_42, zr_139_43, zr_139_44, zr_139_45, zr_139_46, zr_139_47, zr_139_48, zr_139_50, zin_t, zx_nI, nI_add, nI_mul, znI_le, znI_lt, znI_eq, znI_neg, zgu_t, zgu_f, zbind_s, zlet_e, zb_eq0, zb_eq1, zb_t, zb_f, zleL_0, zleR_0, zltL_0, zltR_0, zeq_0, zxl_0, zil_0, zmL_1, zmR_1, zaL_1, zaR_1, zleL_1, zleR_1, zltL_1, zltR_1, zeq_1, zxl_1, zil_1, zmL_2, zmR_2, zaL_2, zaR_2, zleL_2, zleR_2, zltL_2, zltR_2, zeq_2, zxl_2, zil_2, zmL_3, zmR_3, zaL_3, zaR_3, zleL_3, zleR_3, zltL_3, zltR_3, zeq_3, zxl_3, zil_3, zmL_4, zmR_4, zaL_4, zaR_4, zleL_4, zleR_4, zltL_4, zltR_4, zeq_4, zxl_4, zil_4, zmL_5, zmR_5, zaL_5, zaR_5, zleL_5, zleR_5, zltL_5, zltR_5, zeq_5, zxl_5, zil_5, zmL_6, zmR_6, zaL_6, zaR_6, zleL_6, zleR_6, zltL_6, zltR_6, zeq_6, zxl_6, zil_6, zmL_7, zmR_7, zaL_7, zaR_7, zleL_7, zleR_7, zltL_7, zltR_7, zeq_7, zxl_7, zil_7, zmL_8, zmR_8, zaL_8, zaR_8, zleL_8, zleR_8, zltL_8, zltR_8, zeq_8, zxl_8, zil_8, zmL_9, zmR_9, zaL_9, zaR_9, zleL_9, zleR_9, zltL_9, zltR_9, zeq_9, zxl_9, zil_9, zmL_10, zmR_10, zaL_10, zaR_10, zleL_10, zleR_10, zltL_10, zltR_10, zeq_10, zxl_10, zil_10, zmL_14, zmR_14, zaL_14, zaR_14, zleL_14, zleR_14, zltL_14, zltR_14, zeq_14, zxl_14, zil_14, zmL_15, zmR_15, zaL_15, zaR_15, zleL_15, zleR_15, zltL_15, zltR_15, zeq_15, zxl_15, zil_15, zmL_16, zmR_16, zaL_16, zaR_16, zleL_16, zleR_16, zltL_16, zltR_16, zeq_16, zxl_16, zil_16, zmL_20, zmR_20, zaL_20, zaR_20, zleL_20, zleR_20, zltL_20, zltR_20, zeq_20, zxl_20, zil_20, zmL_22, zmR_22, zaL_22, zaR_22, zleL_22, zleR_22, zltL_22, zltR_22, zeq_22, zxl_22, zil_22, zmL_23, zmR_23, zaL_23, zaR_23, zleL_23, zleR_23, zltL_23, zltR_23, zeq_23, zxl_23, zil_23, zmL_24, zmR_24, zaL_24, zaR_24, zleL_24, zleR_24, zltL_24, zltR_24, zeq_24, zxl_24, zil_24, zmL_25, zmR_25, zaL_25, zaR_25, zleL_25, zleR_25, zltL_25, zltR_25, zeq_25, zxl_25, zil_25, zmL_26, zmR_26, zaL_26, zaR_26, zleL_26, zleR_26, zltL_26, zltR_26, zeq_26, zxl_26, zil_26, zmL_32, zmR_32, zaL_32, zaR_32, zleL_32, zleR_32, zltL_32, zltR_32, zeq_32, zxl_32, zil_32, zmL_40, zmR_40, zaL_40, zaR_40, zleL_40, zleR_40, zltL_40, zltR_40, zeq_40, zxl_40, zil_40, zmL_49, zmR_49, zaL_49, zaR_49, zleL_49, zleR_49, zltL_49, zltR_49, zeq_49, zxl_49, zil_49, zmL_58, zmR_58, zaL_58, zaR_58, zleL_58, zleR_58, zltL_58, zltR_58, zeq_58, zxl_58, zil_58, zmL_99, zmR_99, zaL_99, zaR_99, zleL_99, zleR_99, zltL_99, zltR_99, zeq_99, zxl_99, zil_99, zmL_100, zmR_100, zaL_100, zaR_100, zleL_100, zleR_100, zltL_100, zltR_100, zeq_100, zxl_100, zil_100, zmL_107, zmR_107, zaL_107, zaR_107, zleL_107, zleR_107, zltL_107, zltR_107, zeq_107, zxl_107, zil_107, zmL_126, zmR_126, zaL_126, zaR_126, zleL_126, zleR_126, zltL_126, zltR_126, zeq_126, zxl_126, zil_126, zmL_1000, zmR_1000, zaL_1000, zaR_1000, zleL_1000, zleR_1000, zltL_1000, zltR_1000, zeq_1000, zxl_1000, zil_1000, zmL_1605, zmR_1605, zaL_1605, zaR_1605, zleL_1605, zleR_1605, zltL_1605, zltR_1605, zeq_1605, zxl_1605, zil_1605]
  by_cases cq : q < T.1
  · rw [if_pos cq, zin_t (a := q) (n := 1000) (by omega) (by omega)]
    simp only [zgu_t]
    rw [K0.2 q cq, e_isL (I.c cq), e_isN (I.c cq), e_indexOf (by have := I.c cq; omega)]
    simp only [zbind_s, zb_eq0]
    have hte := te_prop (T := T) (q := q) hq
    cases hl : isL (T.2 q)
    · cases hn : isN (T.2 q)
      · simp only [if_true]
        have ete : te T q = q + 1 := by unfold te; rw [if_neg (by omega), hl, hn]; rfl
        have etc : tc T q = tsg (T.2 q) := by unfold tc; rw [if_neg (by omega), hl, hn]; rfl
        have fin : ∀ s0 : Int32, s0 = nI (tsg (T.2 q)) → ∃ h', g_X8_lookAtNext_193 1 s0 h0 = some h' ∧ CT T q h' ∧ zsm AT1 h h' := by
          intro s0 hs
          have w1 : zsm AT1 h0 (zpi (zpi h0 1 2 s0) 1 5 (nI (q + 1))) := (zsm.pi (by unfold AT1; omega)).tr (zsm.pi (by unfold AT1; omega))
          refine ⟨zpi (zpi h0 1 2 s0) 1 5 (nI (q + 1)), ?_, ⟨K0.same w1 (by unfold AT1; omega) (fun k => by unfold AT1; omega), hq, ?_, ?_, ?_, fun z => ?_⟩, w0.tr w1⟩
          · unfold g_X8_lookAtNext_193
            rw [zlet_e, zpi_r, if_neg (by omega), f5, nI_1, zlet_e]
          · rw [zpi_r, if_neg (by omega), zpi_r, if_neg (by omega)]; exact f3
          · rw [zpi_r, if_pos ⟨rfl, rfl⟩, ete]
          · rw [zpi_r, if_neg (by omega), zpi_r, if_pos ⟨rfl, rfl⟩, etc]; exact hs
          · exfalso
            rw [etc] at z
            unfold tsg at z
            repeat' split at z
            all_goals omega
        have hz := zsg_ok (T.2 q) (by have := I.c cq; omega)
        by_cases cs : zsgi (T.2 q) < 0
        · rw [if_pos cs] at hz ⊢
          exact fin _ hz
        · rw [if_neg cs] at hz ⊢
          exact fin _ hz
      · simp only [if_true, Bool.true_eq_false, if_false]
        have w1 : zsm AT1 h0 (zpi h0 1 4 0) := zsm.pi (by unfold AT1; omega)
        have K1 := K0.same w1 (by unfold AT1; omega) (fun k => by unfold AT1; omega)
        obtain ⟨h2, e2, k5, k4, w2⟩ := e_passNumber I (q := q) (T.1 - q) q zfu (zpi h0 1 4 0) rfl (Nat.le_refl _) hq (by show _ < 4000; omega) K1 (by rw [zpi_r, if_neg (by omega)]; exact f5) (by rw [zpi_r, if_pos ⟨rfl, rfl⟩, Nat.sub_self]; rfl)
        have w2' : zsm AT1 (zpi h0 1 4 0) h2 := w2.mono (fun a k z => by unfold A145 at z; unfold AT1; omega)
        have ete : te T q = zr (fun k => isN (T.2 k)) T.1 q := by unfold te; rw [if_neg (by omega), hl, hn]; rfl
        rw [← ete] at k5 k4
        have r3 : h2.1 1 3 = nI q := by rw [(w2 _ _ (by unfold A145; omega)).1, zpi_r, if_neg (by omega)]; exact f3
        have ep : g_X8_passNumber h0 1 = some h2 := by unfold g_X8_passNumber; rw [zlet_e]; exact e2
        rw [ep, zbind_s, k5, r3, nI_sb hte.1]
        have fin : ∀ c, c = tc T q → ∃ h', g_X8_lookAtNext_160 1 (nI c) h2 = some h' ∧ CT T q h' ∧ zsm AT1 h h' := by
          intro c hc
          have w3 : zsm (fun a k => a = 1 ∧ k = 2) h2 (zpi h2 1 2 (nI c)) := zsm.pi ⟨rfl, rfl⟩
          refine ⟨zpi h2 1 2 (nI c), ?_, ⟨((K1.same w2' (by unfold AT1; omega) (fun k => by unfold AT1; omega)).same w3 (by omega) (fun k => by omega)), hq, ?_, ?_, ?_, fun z => ?_⟩, (w0.tr w1).tr (w2'.tr (w3.mono (fun a k z => by unfold AT1; omega)))⟩
          · unfold g_X8_lookAtNext_160; rfl
          · rw [zpi_r, if_neg (by omega)]; exact r3
          · rw [zpi_r, if_neg (by omega)]; exact k5
          · rw [zpi_r, if_pos ⟨rfl, rfl⟩, hc]
          · rw [zpi_r, if_neg (by omega)]; exact k4
        have etc : tc T q = if te T q - q ≤ 4 then 3 else 1 := by unfold tc; rw [if_neg (by omega), hl, hn]; rfl
        by_cases c4 : te T q - q ≤ 4
        · rw [if_neg (by rw [zltL_4 (by omega)]; omega)]
          exact fin 3 (by rw [etc, if_pos c4])
        · rw [if_pos (by rw [zltL_4 (by omega)]; omega)]
          exact fin 1 (by rw [etc, if_neg c4])
    · simp only [Bool.true_eq_false, if_false]
      obtain ⟨h2, e2, k5, w2⟩ := e_passWord I (T.1 - q) q zfu h0 rfl hq (by show _ < 4000; omega) K0 f5
      have w2' : zsm AT1 h0 h2 := w2.mono (fun a k z => by unfold A15 at z; unfold AT1; omega)
      have ete : te T q = zr (fun k => isL (T.2 k)) T.1 q := by unfold te; rw [if_neg (by omega), hl]; rfl
      rw [← ete] at k5
      have r3 : h2.1 1 3 = nI q := by rw [(w2 _ _ (by unfold A15; omega)).1]; exact f3
      have K2 := K0.same w2' (by unfold AT1; omega) (fun k => by unfold AT1; omega)
      have ep : g_X8_passWord h0 1 = some h2 := e2
      rw [ep, zbind_s, k5, r3, nI_sb hte.1]
      have n3 : ∀ l ws k, 4 ≤ k → ¬ tcl l ws k = 3 := by
        intro l ws
        induction ws with
        | nil => intro k _ z; rw [tcl] at z; omega
        | cons w ws ih =>
          intro k hk z
          rw [tcl] at z
          split at z
          · omega
          · exact ih (k + 1) (by omega) z
      have etc : tc T q = if te T q - q ≤ 8 then tcl (tcs T q (te T q - q)) zwds 12 else 1 := by unfold tc; rw [if_neg (by omega), hl]; rfl
      have fin : ∀ c, c = tc T q → ∃ h', g_X8_lookAtNext_116 1 (nI c) h2 = some h' ∧ CT T q h' ∧ zsm AT1 h h' := by
        intro c hc
        have w3 : zsm (fun a k => a = 1 ∧ k = 2) h2 (zpi h2 1 2 (nI c)) := zsm.pi ⟨rfl, rfl⟩
        refine ⟨zpi h2 1 2 (nI c), ?_, ⟨K2.same w3 (by omega) (fun k => by omega), hq, ?_, ?_, ?_, fun z => ?_⟩, w0.tr (w2'.tr (w3.mono (fun a k z => by unfold AT1; omega)))⟩
        · unfold g_X8_lookAtNext_116; rfl
        · rw [zpi_r, if_neg (by omega)]; exact r3
        · rw [zpi_r, if_neg (by omega)]; exact k5
        · rw [zpi_r, if_pos ⟨rfl, rfl⟩, hc]
        · exfalso
          rw [etc] at z
          split at z
          · exact n3 _ _ _ (by decide) z
          · omega
      by_cases c8 : te T q - q ≤ 8
      · rw [if_neg (by rw [zltL_8 (by omega)]; omega), e_wordToken I K2 hte.1 hte.2.1 c8 r3 k5, zbind_s]
        exact fin _ (by rw [etc, if_pos c8])
      · rw [if_pos (by rw [zltL_8 (by omega)]; omega)]
        exact fin 1 (by rw [etc, if_neg c8])
  · rw [if_neg cq]
    have ete : te T q = q := by unfold te; rw [if_pos (by omega)]
    have etc : tc T q = 0 := by unfold tc; rw [if_pos (by omega)]
    have w1 : zsm AT1 h0 (zpi h0 1 2 0) := zsm.pi (by unfold AT1; omega)
    refine ⟨zpi h0 1 2 0, rfl, ⟨K0.same w1 (by unfold AT1; omega) (fun k => by unfold AT1; omega), hq, ?_, ?_, ?_, fun z => by omega⟩, w0.tr w1⟩
    · rw [zpi_r, if_neg (by omega)]; exact f3
    · rw [zpi_r, if_neg (by omega), ete]; exact f5
    · rw [zpi_r, if_pos ⟨rfl, rfl⟩, etc]; rfl
theorem e_lookAtNext (I : TI T) (K : TC T h) (hp : p ≤ T.1) (e5 : h.1 1 5 = nI p) : ∃ h', g_X8_lookAtNext h 1 = some h' ∧ CT T (tq T p) h' ∧ zsm AT1 h h' := by
  have l := I.1
  have w0 : zsm AT1 h (zpi h 1 3 (nI p)) := zsm.pi (by unfold AT1; omega)
  obtain ⟨h1, e1, k1, w1⟩ := e_skip I (T.1 - p) p zfu (zpi h 1 3 (nI p)) rfl hp (by show _ < 4000; omega) (K.same w0 (by unfold AT1; omega) (fun k => by unfold AT1; omega)) (by rw [zpi_r, if_pos ⟨rfl, rfl⟩])
  have w1' : zsm AT1 (zpi h 1 3 (nI p)) h1 := w1.mono (fun a k z => by unfold A3 at z; unfold AT1; omega)
  obtain ⟨h2, e2, k2, w2⟩ := e_47 I ((K.same w0 (by unfold AT1; omega) (fun k => by unfold AT1; omega)).same w1' (by unfold AT1; omega) (fun k => by unfold AT1; omega)) (tq_prop hp).2.1 k1
  refine ⟨h2, ?_, k2, (w0.tr w1').tr w2⟩
  unfold g_X8_lookAtNext
  rw [e5, zlet_e, e1, e2]
/-- from the token at q to the next one -/
def tx (T : zTp) (q : Nat) : Nat := tq T (te T q)
theorem e_look (I : TI T) (K : CT T q h) : ∃ h', g_X8_lookAtNext h 1 = some h' ∧ CT T (tx T q) h' ∧ zsm AT1 h h' := e_lookAtNext I K.1 (te_prop K.2.1).2.1 K.2.2.2.1
theorem CT.same (K : CT T q h) (x : zsm A h h') (hA : ∀ k, ¬ A 1 k) (h2 : ∀ k, ¬ A 2 k) : CT T q h' := by
  obtain ⟨k1, k2, k3, k4, k5, k6⟩ := K
  exact ⟨k1.same x (hA 1) h2, k2, by rw [(x _ _ (hA 3)).1]; exact k3, by rw [(x _ _ (hA 5)).1]; exact k4, by rw [(x _ _ (hA 2)).1]; exact k5, fun z => by rw [(x _ _ (hA 4)).1]; exact k6 z⟩
theorem tx_prop (hq : q ≤ T.1) : q ≤ tx T q ∧ tx T q ≤ T.1 ∧ (q < T.1 → q < tx T q) := by
  have a := te_prop (T := T) hq
  have b := tq_prop (T := T) (p := te T q) a.2.1
  unfold tx
  refine ⟨by omega, b.2.1, fun z => ?_⟩
  have := a.2.2 z
  omega
end K4
