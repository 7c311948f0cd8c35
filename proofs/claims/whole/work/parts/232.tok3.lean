/-! the reference looks at the next token -/
section K5
variable {T : zTp} {q p : Nat} {h h' : zH} {A : Nat → Nat → Prop}
def AM1 : Nat → Nat → Prop := fun a k => a = 139 ∧ 4 ≤ k ∧ k ≤ 8
theorem e_signAt (I : TI T) (K : TM T h) (hp : p ≤ T.1) : g_X12_signAt h 139 (nI p) = some (nI (if p < T.1 then T.2 p else 0)) := by
  have l := I.1
  unfold g_X12_signAt
  rw [K.1]
  by_cases c : p < T.1
  · rw [if_neg (by rw [znI_le (by omega) (by omega)]; omega), if_pos c, zin_t (by omega) (by omega), zgu_t, zx_nI (by omega)]
    simp only [zr_0_0, zr_0_1, zr_0_2, zr_0_3, zr_0_4, zr_0_5, zr_0_6, zr_0_7, zr_0_8, zr_1_0, zr_3_0, zr_3_1, zr_3_2, zr_3_3, zr_3_4, zr_3_5, zr_3_6, zr_10_0, zr_10_1, zr_13_0, zr_13_1, zr_13_4, zr_14_0, zr_14_1, zr_14_2, zr_14_3, zr_14_4, zr_14_5, zr_14_6, zr_21_0, zr_21_1, zr_24_0, zr_24_1, zr_24_2, zr_26_0, zr_26_1, zr_26_4, zr_27_0, zr_37_0, zr_37_1, zr_38_0, zr_44_0, zr_44_1, zr_44_2, zr_44_3, zr_45_0, zr_45_1, zr_52_0, zr_52_1, zr_59_0, zr_59_1, zr_66_0, zr_66_1, zr_73_0, zr_74_0, zr_74_1, zr_74_2, zr_74_3, zr_74_4, zr_74_5, zr_74_6, zr_74_7, zr_74_8, zr_74_9, zr_74_10, zr_74_11, zr_74_12, zr_74_13, zr_74_14, zr_74_15, zr_139_2, zr_139_10, zr_139_11, zr_139_12, zr_139_13, zr_139_14, zr_139_15, zr_139_16, zr_139_17, zr_139_18, zr_139_19, zr_139_20, zr_139_23, zr_139_24, zr_139_25, zr_139_26, zr_139_27, zr_139_28, zr_139_29, zr_139_30, zr_139_31, zr_139_32, zr_139_33, zr_139_34, zr_139_37, zr_139_38, zr_139_39, zr_139_40, zr_139_41, zr_139_42, zr_139_43, zr_139_44, zr_139_45, zr_139_46, zr_139_47, zr_139_48, zr_139_50]
    rw [K.2 p c]
  · rw [if_pos (by rw [znI_le (by omega) (by omega)]; omega), if_neg c]; rfl
def wv (T : zTp) (q n : Nat) : Int64 := w27 ((tcs T q n).map (fun c => c - 96))
theorem wv_snoc (T : zTp) (q n : Nat) : wv T q (n + 1) = wv T q n * 27 + lN (T.2 (q + n) - 96) := by
  unfold wv w27; rw [tcs_snoc, List.map_append, List.foldl_append]; rfl
theorem lN_m96 {c : Nat} {a : Int64} (hc : 96 ≤ c) (h2 : c < 2147483648) : (a + (nI c).toInt64) - 96 = a + lN (c - 96) := by
  rw [nI_l (by omega)]
  have : lN c = lN (c - 96) + 96 := by rw [show (96 : Int64) = lN 96 from rfl, lN_add]; congr 1; omega
  rw [this]
  apply Int64.toBitVec_inj.mp
  simp only [Int64.toBitVec_add, Int64.toBitVec_sub]
  rw [← BitVec.add_assoc, BitVec.add_sub_cancel]
theorem nI_m48' {c : Nat} {a : Int32} (hc : 48 ≤ c) : (a + nI c) - 48 = a + nI (c - 48) := by
  have : nI c = nI (c - 48) + 48 := by rw [show (48 : Int32) = nI 48 from rfl, nI_add]; congr 1; omega
  rw [this]
  apply Int32.toBitVec_inj.mp
  simp only [Int32.toBitVec_add, Int32.toBitVec_sub]
  rw [← BitVec.add_assoc, BitVec.add_sub_cancel]
theorem e_109 (I : TI T) {q : Nat} : ∀ k p n h, k = T.1 - p → q ≤ p → p ≤ T.1 → k < n → TM T h → h.1 139 4 = nI p → h.1 139 5 = nI q → h.2 139 7 = wv T q (min (p - q) 8) → ∃ h', g_X12_nextToken_109 139 n h = g_X12_nextToken_188 139 h' ∧ h'.1 139 4 = nI (zr (fun k => isL (T.2 k)) T.1 p) ∧ h'.1 139 5 = nI q ∧ h'.2 139 7 = wv T q (min (zr (fun k => isL (T.2 k)) T.1 p - q) 8) ∧ zsm AM1 h h' := by
  have l := I.1
  intro k
  induction k with
  | zero =>
    intro p n h hk hq hp hn K e4 e5 e7
    obtain ⟨n, rfl⟩ : ∃ m, n = m + 1 := ⟨n - 1, by omega⟩
    have es := zr_stop (f := fun k => isL (T.2 k)) (N := T.1) (p := p) (Or.inl (by omega))
    refine ⟨h, ?_, by rw [es]; exact e4, e5, by rw [es]; exact e7, zsm.rf⟩
    rw [g_X12_nextToken_109, e4, e_signAt I K hp, zbind_s, if_neg (by omega : ¬ p < T.1), if_pos (by decide)]
  | succ k ih =>
    intro p n h hk hq hp hn K e4 e5 e7
    obtain ⟨n, rfl⟩ : ∃ m, n = m + 1 := ⟨n - 1, by omega⟩
    have hpl : p < T.1 := by omega
    have hc := I.c hpl
    have a : (nI (T.2 p) < (97 : Int32)) = (T.2 p < 97) := zlt_k (n := 97) (by omega) (by decide)
    have b : ((122 : Int32) < nI (T.2 p)) = (122 < T.2 p) := zlt_k (c := 122) (by decide) (by omega)
    rw [g_X12_nextToken_109, e4, e_signAt I K hp, zbind_s, if_pos hpl, zbind_s, zbind_s]
    simp only [a, b]
    cases hl : isL (T.2 p)
    · have es := zr_stop (f := fun k => isL (T.2 k)) (N := T.1) (p := p) (Or.inr hl)
      refine ⟨h, ?_, by rw [es]; exact e4, e5, by rw [es]; exact e7, zsm.rf⟩
      unfold isL at hl
      simp at hl
      by_cases c1 : T.2 p < 97
      · rw [if_pos c1]
      · rw [if_neg c1, if_pos (by omega)]
    · have es := zr_step (f := fun k => isL (T.2 k)) (N := T.1) (p := p) hpl hl
      have hl' := hl
      unfold isL at hl'
      simp at hl'
      rw [if_neg (by omega), if_neg (by omega), e5, nI_sb hq]
      rw [es]
      by_cases c8 : 8 ≤ p - q
      · rw [if_pos (by rw [zleL_8 (by omega)]; exact c8)]
        unfold g_X12_nextToken_175
        rw [zlet_e, e4, nI_1]
        have w1 : zsm AM1 h (zpi h 139 4 (nI (p + 1))) := zsm.pi (by unfold AM1; omega)
        obtain ⟨h2, e2, k2, k3, k4, w2⟩ := ih (p + 1) n (zpi h 139 4 (nI (p + 1))) (by omega) (by omega) (by omega) (by omega) (K.same w1 (by unfold AM1; omega) (fun k => by unfold AM1; omega)) (by rw [zpi_r, if_pos ⟨rfl, rfl⟩]) (by rw [zpi_r, if_neg (by omega)]; exact e5) (by rw [zpi_2, e7]; congr 1; omega)
        exact ⟨h2, e2, k2, k3, k4, w1.tr w2⟩
      · rw [if_neg (by rw [zleL_8 (by omega)]; exact c8)]
        unfold g_X12_nextToken_175
        rw [zlet_e, zlet_e, e7, lN_m96 (by omega) (by omega)]
        have ew : wv T q (min (p - q) 8) * 27 + lN (T.2 p - 96) = wv T q (min (p + 1 - q) 8) := by
          rw [show min (p - q) 8 = p - q by omega, show min (p + 1 - q) 8 = (p - q) + 1 by omega, wv_snoc, show q + (p - q) = p by omega]
        rw [ew, zpl_1, e4, nI_1]
        have w1 : zsm AM1 h (zpi (zpl h 139 7 (wv T q (min (p + 1 - q) 8))) 139 4 (nI (p + 1))) := (zsm.pl (by unfold AM1; omega)).tr (zsm.pi (by unfold AM1; omega))
        obtain ⟨h2, e2, k2, k3, k4, w2⟩ := ih (p + 1) n (zpi (zpl h 139 7 (wv T q (min (p + 1 - q) 8))) 139 4 (nI (p + 1))) (by omega) (by omega) (by omega) (by omega) (K.same w1 (by unfold AM1; omega) (fun k => by unfold AM1; omega)) (by rw [zpi_r, if_pos ⟨rfl, rfl⟩]) (by rw [zpi_r, if_neg (by omega), zpl_1]; exact e5) (by rw [zpi_2, zpl_r, if_pos ⟨rfl, rfl⟩])
        exact ⟨h2, e2, k2, k3, k4, w1.tr w2⟩
theorem e_224 (I : TI T) {q : Nat} : ∀ k p n h, k = T.1 - p → q ≤ p → p ≤ T.1 → k < n → TM T h → h.1 139 4 = nI p → h.1 139 5 = nI q → h.1 139 8 = nI (tnv T q (min (p - q) 4)) → ∃ h', g_X12_nextToken_224 139 n h = g_X12_nextToken_299 139 h' ∧ h'.1 139 4 = nI (zr (fun k => isN (T.2 k)) T.1 p) ∧ h'.1 139 5 = nI q ∧ h'.1 139 8 = nI (tnv T q (min (zr (fun k => isN (T.2 k)) T.1 p - q) 4)) ∧ zsm AM1 h h' := by
  have l := I.1
  intro k
  induction k with
  | zero =>
    intro p n h hk hq hp hn K e4 e5 e7
    obtain ⟨n, rfl⟩ : ∃ m, n = m + 1 := ⟨n - 1, by omega⟩
    have es := zr_stop (f := fun k => isN (T.2 k)) (N := T.1) (p := p) (Or.inl (by omega))
    refine ⟨h, ?_, by rw [es]; exact e4, e5, by rw [es]; exact e7, zsm.rf⟩
    rw [g_X12_nextToken_224, e4, e_signAt I K hp, zbind_s, if_neg (by omega : ¬ p < T.1), if_pos (by decide)]
  | succ k ih =>
    intro p n h hk hq hp hn K e4 e5 e7
    obtain ⟨n, rfl⟩ : ∃ m, n = m + 1 := ⟨n - 1, by omega⟩
    have hpl : p < T.1 := by omega
    have hc := I.c hpl
    have a : (nI (T.2 p) < (48 : Int32)) = (T.2 p < 48) := zlt_k (n := 48) (by omega) (by decide)
    have b : ((57 : Int32) < nI (T.2 p)) = (57 < T.2 p) := zlt_k (c := 57) (by decide) (by omega)
    rw [g_X12_nextToken_224, e4, e_signAt I K hp, zbind_s, if_pos hpl, zbind_s, zbind_s]
    simp only [a, b]
    cases hl : isN (T.2 p)
    · have es := zr_stop (f := fun k => isN (T.2 k)) (N := T.1) (p := p) (Or.inr hl)
      refine ⟨h, ?_, by rw [es]; exact e4, e5, by rw [es]; exact e7, zsm.rf⟩
      unfold isN at hl
      simp at hl
      by_cases c1 : T.2 p < 48
      · rw [if_pos c1]
      · rw [if_neg c1, if_pos (by omega)]
    · have es := zr_step (f := fun k => isN (T.2 k)) (N := T.1) (p := p) hpl hl
      have hl' := hl
      unfold isN at hl'
      simp at hl'
      rw [if_neg (by omega), if_neg (by omega), e5, nI_sb hq]
      rw [es]
      by_cases c8 : 4 ≤ p - q
      · rw [if_pos (by rw [zleL_4 (by omega)]; exact c8)]
        unfold g_X12_nextToken_286
        rw [zlet_e, e4, nI_1]
        have w1 : zsm AM1 h (zpi h 139 4 (nI (p + 1))) := zsm.pi (by unfold AM1; omega)
        obtain ⟨h2, e2, k2, k3, k4, w2⟩ := ih (p + 1) n (zpi h 139 4 (nI (p + 1))) (by omega) (by omega) (by omega) (by omega) (K.same w1 (by unfold AM1; omega) (fun k => by unfold AM1; omega)) (by rw [zpi_r, if_pos ⟨rfl, rfl⟩]) (by rw [zpi_r, if_neg (by omega)]; exact e5) (by rw [zpi_r, if_neg (by omega), e7]; congr 2; omega)
        exact ⟨h2, e2, k2, k3, k4, w1.tr w2⟩
      · rw [if_neg (by rw [zleL_4 (by omega)]; exact c8)]
        unfold g_X12_nextToken_286
        rw [zlet_e, zlet_e, e7, nI_m48' (by omega), zmR_10, nI_add]
        have ew : tnv T q (min (p - q) 4) * 10 + (T.2 p - 48) = tnv T q (min (p + 1 - q) 4) := by
          rw [show min (p - q) 4 = p - q by omega, show min (p + 1 - q) 4 = (p - q) + 1 by omega, tnv_snoc, show q + (p - q) = p by omega]
        rw [ew, zpi_r, if_neg (by omega), e4, nI_1]
        have w1 : zsm AM1 h (zpi (zpi h 139 8 (nI (tnv T q (min (p + 1 - q) 4)))) 139 4 (nI (p + 1))) := (zsm.pi (by unfold AM1; omega)).tr (zsm.pi (by unfold AM1; omega))
        obtain ⟨h2, e2, k2, k3, k4, w2⟩ := ih (p + 1) n (zpi (zpi h 139 8 (nI (tnv T q (min (p + 1 - q) 4)))) 139 4 (nI (p + 1))) (by omega) (by omega) (by omega) (by omega) (K.same w1 (by unfold AM1; omega) (fun k => by unfold AM1; omega)) (by rw [zpi_r, if_pos ⟨rfl, rfl⟩]) (by rw [zpi_r, if_neg (by omega), zpi_r, if_neg (by omega)]; exact e5) (by rw [zpi_r, if_neg (by omega), zpi_r, if_pos ⟨rfl, rfl⟩])
        exact ⟨h2, e2, k2, k3, k4, w1.tr w2⟩
theorem tcl_ge : ∀ l ws k, 12 ≤ k → (tcl l ws k = 2 ∨ 12 ≤ tcl l ws k) := by
  intro l ws
  induction ws with
  | nil => intro k _; left; rfl
  | cons w ws ih =>
    intro k hk
    rw [tcl]
    split
    · right; exact hk
    · exact ih (k + 1) (by omega)
theorem mtk_w {c : Nat} (h : c = 2 ∨ 12 ≤ c) : mtk c = 1 := by
  unfold mtk
  rcases h with rfl | h
  · rfl
  · rw [if_neg (by omega), if_neg (by omega), if_neg (by omega), if_neg (by omega), if_neg (by omega)]
theorem zmsg : ∀ c, c < 127 → mtk (tsg c) = (if (40 ≤ c ∧ c ≤ 43) ∨ c = 45 ∨ (59 ≤ c ∧ c ≤ 61) then 3 else 4) ∧ ¬ (tsg c = 2 ∨ 12 ≤ tsg c) ∧ ¬ tsg c = 3 := by decide
theorem e_52 (I : TI T) (K : TM T h) (hq : q ≤ T.1) (e4 : h.1 139 4 = nI q) : ∃ h', g_X12_nextToken_52 139 h = some h' ∧ MT T q h' ∧ zsm AM1 h h' := by
  have l := I.1
  have hte := te_prop (T := T) (q := q) hq
  have w0 : zsm AM1 h (zpi (zpl (zpi h 139 5 (nI q)) 139 7 0) 139 8 0) := ((zsm.pi (by unfold AM1; omega)).tr (zsm.pl (by unfold AM1; omega))).tr (zsm.pi (by unfold AM1; omega))
  have K0 : TM T (zpi (zpl (zpi h 139 5 (nI q)) 139 7 0) 139 8 0) := K.same w0 (by unfold AM1; omega) (fun k => by unfold AM1; omega)
  have f4 : (zpi (zpl (zpi h 139 5 (nI q)) 139 7 0) 139 8 0).1 139 4 = nI q := by rw [zpi_r, if_neg (by omega), zpl_1, zpi_r, if_neg (by omega)]; exact e4
  have f5 : (zpi (zpl (zpi h 139 5 (nI q)) 139 7 0) 139 8 0).1 139 5 = nI q := by rw [zpi_r, if_neg (by omega), zpl_1, zpi_r, if_pos ⟨rfl, rfl⟩]
  have f7 : (zpi (zpl (zpi h 139 5 (nI q)) 139 7 0) 139 8 0).2 139 7 = 0 := by rw [zpi_2, zpl_r, if_pos ⟨rfl, rfl⟩]
  have f8 : (zpi (zpl (zpi h 139 5 (nI q)) 139 7 0) 139 8 0).1 139 8 = 0 := by rw [zpi_r, if_pos ⟨rfl, rfl⟩]
  unfold g_X12_nextToken_52
  rw [e4, zlet_e, zlet_e, zlet_e]
  generalize zpi (zpl (zpi h 139 5 (nI q)) 139 7 0) 139 8 0 = h0 at *
  rw [f4, K0.1]
  by_cases cq : q < T.1
  · have hc := I.c cq
    have a97 : (nI (T.2 q) < (97 : Int32)) = (T.2 q < 97) := zlt_k (n := 97) (by omega) (by decide)
    have b122 : ((122 : Int32) < nI (T.2 q)) = (122 < T.2 q) := zlt_k (c := 122) (by decide) (by omega)
    have a48 : (nI (T.2 q) < (48 : Int32)) = (T.2 q < 48) := zlt_k (n := 48) (by omega) (by decide)
    have b57 : ((57 : Int32) < nI (T.2 q)) = (57 < T.2 q) := zlt_k (c := 57) (by decide) (by omega)
    rw [if_neg (by rw [znI_eq (by omega) (by omega)]; omega), zin_t (by omega) (by omega), zgu_t, zx_nI (by omega), zlet_e]
    simp only [zr_0_0, zr_0_1, zr_0_2, zr_0_3, zr_0_4, zr_0_5, zr_0_6, zr_0_7, zr_0_8, zr_1_0, zr_3_0, zr_3_1, zr_3_2, zr_3_3, zr_3_4, zr_3_5, zr_3_6, zr_10_0, zr_10_1, zr_13_0, zr_13_1, zr_13_4, zr_14_0, zr_14_1, zr_14_2, zr_14_3, zr_14_4, zr_14_5, zr_14_6, zr_21_0, zr_21_1, zr_24_0, zr_24_1, zr_24_2, zr_26_0, zr_26_1, zr_26_4, zr_27_0, zr_37_0, zr_37_1, zr_38_0, zr_44_0, zr_44_1, zr_44_2, zr_44_3, zr_45_0, zr_45_1, zr_52_0, zr_52_1, zr_59_0, zr_59_1, zr_66_0, zr_66_1, zr_73_0, zr_74_0, zr_74_1, zr_74_2, zr_74_3, zr_74_4, zr_74_5, zr_74_6, zr_74_7, zr_74_8, zr_74_9, zr_74_10, zr_74_11, zr_74_12, zr_74_13, zr_74_14, zr_74_15, zr_139_2, zr_139_10, zr_139_11, zr_139_12, zr_139_13, zr_139_14, zr_139_15, zr_139_16, zr_139_17, zr_139_18, zr_139_19, zr_139_20, zr_139_23, zr_139_24, zr_139_25, zr_139_26, zr_139_27, zr_139_28, zr_139_29, zr_139_30, zr_139_31, zr_139_32, zr_139_33, zr_139_34, zr_139_37, zr_139_38, zr_139_39, zr_139_40, zr_139_41, zr_139_42, zr_139_43, zr_139_44, zr_139_45, zr_139_46, zr_139_47, zr_139_48, zr_139_50]
    rw [K0.2 q cq]
    simp only [a97, b122]
    cases hl : isL (T.2 q)
    · have hl2 := hl
      unfold isL at hl2
      simp at hl2
      have e1 : (if T.2 q < 97 then g_X12_nextToken_212 139 (nI (T.2 q)) h0 else if 122 < T.2 q then g_X12_nextToken_212 139 (nI (T.2 q)) h0 else g_X12_nextToken_109 139 zfu h0) = g_X12_nextToken_212 139 (nI (T.2 q)) h0 := by
        by_cases c1 : T.2 q < 97
        · rw [if_pos c1]
        · rw [if_neg c1, if_pos (by omega)]
      rw [e1]
      unfold g_X12_nextToken_212
      simp only [a48, b57]
      cases hn : isN (T.2 q)
      · have hn2 := hn
        unfold isN at hn2
        simp at hn2
        have e2 : (if T.2 q < 48 then g_X12_nextToken_322 139 (nI (T.2 q)) h0 else if 57 < T.2 q then g_X12_nextToken_322 139 (nI (T.2 q)) h0 else g_X12_nextToken_224 139 zfu h0) = g_X12_nextToken_322 139 (nI (T.2 q)) h0 := by
          by_cases c1 : T.2 q < 48
          · rw [if_pos c1]
          · rw [if_neg c1, if_pos (by omega)]
        rw [e2]
        have ete : te T q = q + 1 := by unfold te; rw [if_neg (by omega), hl, hn]; rfl
        have etc : tc T q = tsg (T.2 q) := by unfold tc; rw [if_neg (by omega), hl, hn]; rfl
        obtain ⟨m1, m2, m3⟩ := zmsg (T.2 q) (by omega)
        have w1 : zsm AM1 h0 (zpi h0 139 4 (nI (q + 1))) := zsm.pi (by unfold AM1; omega)
        have fin : ∀ c, c = mtk (tc T q) → ∃ h', g_X12_nextToken_368 139 (nI c) (zpi h0 139 4 (nI (q + 1))) = some h' ∧ MT T q h' ∧ zsm AM1 h h' := by
          intro c hc
          have w2 : zsm AM1 (zpi h0 139 4 (nI (q + 1))) (zpi (zpi h0 139 4 (nI (q + 1))) 139 6 (nI c)) := zsm.pi (by unfold AM1; omega)
          refine ⟨_, rfl, ⟨(K0.same w1 (by unfold AM1; omega) (fun k => by unfold AM1; omega)).same w2 (by unfold AM1; omega) (fun k => by unfold AM1; omega), hq, ?_, ?_, ?_, fun z => ?_, fun z => ?_⟩, (w0.tr w1).tr w2⟩
          · rw [zpi_r, if_neg (by omega), zpi_r, if_neg (by omega)]; exact f5
          · rw [zpi_r, if_neg (by omega), zpi_r, if_pos ⟨rfl, rfl⟩, ete]
          · rw [zpi_r, if_pos ⟨rfl, rfl⟩, hc]
          · rw [etc] at z; exact absurd z m2
          · rw [etc] at z; exact absurd z m3
        have a40 : (nI (T.2 q) < (40 : Int32)) = (T.2 q < 40) := zlt_k (n := 40) (by omega) (by decide)
        have b43 : (nI (T.2 q) ≤ (43 : Int32)) = (T.2 q ≤ 43) := znI_le (b := 43) (by omega) (by decide)
        have c45 : (nI (T.2 q) = (45 : Int32)) = (T.2 q = 45) := znI_eq (b := 45) (by omega) (by decide)
        have a59 : (nI (T.2 q) < (59 : Int32)) = (T.2 q < 59) := zlt_k (n := 59) (by omega) (by decide)
        have b61 : ((61 : Int32) < nI (T.2 q)) = (61 < T.2 q) := zlt_k (c := 61) (by decide) (by omega)
        rw [etc, m1] at fin
        unfold g_X12_nextToken_322 g_X12_nextToken_345 g_X12_nextToken_363 g_X12_nextToken_367
        rw [f4, nI_1, zlet_e]
        simp only [a40, b43, c45, a59, b61]
        by_cases g1 : (40 ≤ T.2 q ∧ T.2 q ≤ 43) ∨ T.2 q = 45 ∨ (59 ≤ T.2 q ∧ T.2 q ≤ 61)
        · have f3 := fin 3 (by rw [if_pos g1])
          by_cases d1 : T.2 q < 40
          · exfalso; omega
          · rw [if_neg d1]
            by_cases d2 : T.2 q ≤ 43
            · rw [if_pos d2]; exact f3
            · rw [if_neg d2]
              by_cases d3 : T.2 q = 45
              · rw [if_pos d3]; exact f3
              · rw [if_neg d3, if_neg (by omega), if_neg (by omega)]; exact f3
        · have f3 := fin 4 (by rw [if_neg g1])
          by_cases d1 : T.2 q < 40
          · rw [if_pos d1, if_neg (by omega), if_pos (by omega)]; exact f3
          · rw [if_neg d1, if_neg (by omega), if_neg (by omega)]
            by_cases d3 : T.2 q < 59
            · rw [if_pos d3]; exact f3
            · rw [if_neg d3, if_pos (by omega)]; exact f3
      · have hn2 := hn
        unfold isN at hn2
        simp at hn2
        rw [if_neg (by omega), if_neg (by omega)]
        have ete : te T q = zr (fun k => isN (T.2 k)) T.1 q := by unfold te; rw [if_neg (by omega), hl, hn]; rfl
        obtain ⟨h2, e2, k4, k5, k8, w2⟩ := e_224 I (q := q) (T.1 - q) q zfu h0 rfl (Nat.le_refl _) hq (by show _ < 4000; omega) K0 f4 f5 (by rw [f8, Nat.sub_self]; rfl)
        rw [← ete] at k4 k8
        rw [e2]
        have etc : tc T q = if te T q - q ≤ 4 then 3 else 1 := by unfold tc; rw [if_neg (by omega), hl, hn]; rfl
        have fin : ∀ c, c = mtk (tc T q) → ∃ h', g_X12_nextToken_318 139 (nI c) h2 = some h' ∧ MT T q h' ∧ zsm AM1 h h' := by
          intro c hc
          have w3 : zsm AM1 h2 (zpi h2 139 6 (nI c)) := zsm.pi (by unfold AM1; omega)
          refine ⟨_, rfl, ⟨(K0.same w2 (by unfold AM1; omega) (fun k => by unfold AM1; omega)).same w3 (by unfold AM1; omega) (fun k => by unfold AM1; omega), hq, ?_, ?_, ?_, fun z => ?_, fun z => ?_⟩, (w0.tr w2).tr w3⟩
          · rw [zpi_r, if_neg (by omega)]; exact k5
          · rw [zpi_r, if_neg (by omega)]; exact k4
          · rw [zpi_r, if_pos ⟨rfl, rfl⟩, hc]
          · exfalso; rw [etc] at z; split at z <;> omega
          · rw [zpi_r, if_neg (by omega), k8]
            have : te T q - q ≤ 4 := by
              rw [etc] at z
              split at z
              · assumption
              · omega
            unfold tn
            rw [show min (te T q - q) 4 = te T q - q by omega]
        unfold g_X12_nextToken_299
        rw [k4, k5, nI_sb hte.1]
        by_cases c4 : te T q - q ≤ 4
        · rw [if_pos (by rw [zleR_4 (by omega)]; exact c4)]
          exact fin 2 (by rw [etc, if_pos c4]; rfl)
        · rw [if_neg (by rw [zleR_4 (by omega)]; exact c4)]
          exact fin 4 (by rw [etc, if_neg c4]; rfl)
    · have hl2 := hl
      unfold isL at hl2
      simp at hl2
      rw [if_neg (by omega), if_neg (by omega)]
      have ete : te T q = zr (fun k => isL (T.2 k)) T.1 q := by unfold te; rw [if_neg (by omega), hl]; rfl
      obtain ⟨h2, e2, k4, k5, k7, w2⟩ := e_109 I (q := q) (T.1 - q) q zfu h0 rfl (Nat.le_refl _) hq (by show _ < 4000; omega) K0 f4 f5 (by rw [f7, Nat.sub_self]; rfl)
      rw [← ete] at k4 k7
      rw [e2]
      have etc : tc T q = if te T q - q ≤ 8 then tcl (tcs T q (te T q - q)) zwds 12 else 1 := by unfold tc; rw [if_neg (by omega), hl]; rfl
      have fin : ∀ c, c = mtk (tc T q) → ∃ h', g_X12_nextToken_208 139 (nI c) h2 = some h' ∧ MT T q h' ∧ zsm AM1 h h' := by
        intro c hc
        have w3 : zsm AM1 h2 (zpi h2 139 6 (nI c)) := zsm.pi (by unfold AM1; omega)
        refine ⟨_, rfl, ⟨(K0.same w2 (by unfold AM1; omega) (fun k => by unfold AM1; omega)).same w3 (by unfold AM1; omega) (fun k => by unfold AM1; omega), hq, ?_, ?_, ?_, fun z => ?_, fun z => ?_⟩, (w0.tr w2).tr w3⟩
        · rw [zpi_r, if_neg (by omega)]; exact k5
        · rw [zpi_r, if_neg (by omega)]; exact k4
        · rw [zpi_r, if_pos ⟨rfl, rfl⟩, hc]
        · rw [zpi_2, k7]
          have : te T q - q ≤ 8 := by
            rw [etc] at z
            split at z
            · assumption
            · omega
          rw [show min (te T q - q) 8 = te T q - q by omega]; rfl
        · exfalso
          rw [etc] at z
          split at z
          · have := tcl_ge (tcs T q (te T q - q)) zwds 12 (by decide); omega
          · omega
      unfold g_X12_nextToken_188
      rw [k4, k5, nI_sb hte.1]
      by_cases c8 : te T q - q ≤ 8
      · rw [if_pos (by rw [zleR_8 (by omega)]; exact c8)]
        exact fin 1 (by rw [etc, if_pos c8, mtk_w (tcl_ge _ _ _ (by decide))])
      · rw [if_neg (by rw [zleR_8 (by omega)]; exact c8)]
        exact fin 4 (by rw [etc, if_neg c8]; rfl)
  · rw [if_pos (by rw [znI_eq (by omega) (by omega)]; omega)]
    have ete : te T q = q := by unfold te; rw [if_pos (by omega)]
    have etc : tc T q = 0 := by unfold tc; rw [if_pos (by omega)]
    have w1 : zsm AM1 h0 (zpi h0 139 6 0) := zsm.pi (by unfold AM1; omega)
    refine ⟨zpi h0 139 6 0, rfl, ⟨K0.same w1 (by unfold AM1; omega) (fun k => by unfold AM1; omega), hq, ?_, ?_, ?_, fun z => by omega, fun z => by omega⟩, w0.tr w1⟩
    · rw [zpi_r, if_neg (by omega)]; exact f5
    · rw [zpi_r, if_neg (by omega), ete]; exact f4
    · rw [zpi_r, if_pos ⟨rfl, rfl⟩, etc]; rfl
theorem e_skipM (I : TI T) : ∀ k p n h, k = T.1 - p → p ≤ T.1 → k < n → TM T h → h.1 139 4 = nI p → ∃ h', g_X12_nextToken_0 139 n h = g_X12_nextToken_52 139 h' ∧ h'.1 139 4 = nI (tq T p) ∧ zsm AM1 h h' := by
  have l := I.1
  intro k
  induction k with
  | zero =>
    intro p n h hk hp hn K e
    obtain ⟨n, rfl⟩ : ∃ m, n = m + 1 := ⟨n - 1, by omega⟩
    refine ⟨h, ?_, by unfold tq; rw [zr_stop (f := fun k => isB (T.2 k)) (N := T.1) (p := p) (Or.inl (by omega))]; exact e, zsm.rf⟩
    rw [g_X12_nextToken_0, K.1, e, if_pos (by rw [znI_le (by omega) (by omega)]; omega)]
  | succ k ih =>
    intro p n h hk hp hn K e
    obtain ⟨n, rfl⟩ : ∃ m, n = m + 1 := ⟨n - 1, by omega⟩
    have hpl : p < T.1 := by omega
    have hc := I.c hpl
    rw [g_X12_nextToken_0, K.1, e]
    simp (disch := omega) only [zr_0_0, zr_0_1, zr_0_2, zr_0_3, zr_0_4, zr_0_5, zr_0_6, zr_0_7, zr_0_8, zr_1_0, zr_3_0, zr_3_1, zr_3_2, zr_3_3, zr_3_4, zr_3_5, zr_3_6, zr_10_0, zr_10_1, zr_13_0, zr_13_1, zr_13_4, zr_14_0, zr_14_1, zr_14_2, zr_14_3, zr_14_4, zr_14_5, zr_14_6, zr_21_0, zr_21_1, zr_24_0, zr_24_1, zr_24_2, zr_26_0, zr_26_1, zr_26_4, zr_27_0, zr_37_0, zr_37_1, zr_38_0, zr_44_0, zr_44_1, zr_44_2, zr_44_3, zr_45_0, zr_45_1, zr_52_0, zr_52_1, zr_59_0, zr_59_1, zr_66_0, zr_66_1, zr_73_0, zr_74_0, zr_74_1, zr_74_2, zr_74_3, zr_74_4, zr_74_5, zr_74_6, zr_74_7, zr_74_8, zr_74_9, zr_74_10, zr_74_11, zr_74_12, zr_74_13, zr_74_14, zr_74_15, zr_139_2, zr_139_10, zr_139_11, zr_139_12, zr_139_13, zr_139_14, zr_139_15, zr_139_16, zr_139_17, zr_139_18, zr_139_19, zr_139_20, zr_139_23, zr_139_24, zr_139_25, zr_139_26, zr_139_27, zr_139_28, zr_139_29, zr_139_30, zr_139_31, zr_139_32, zr_139_33, zr_139_34, zr_139_37, zr_139_38, zr_139_39, zr_139_40, zr_139_41, zr_139_42, zr_139_43, zr_139_44, zr_139_45, zr_139_46, zr_139_47, zr_139_48, zr_139_50, zin_t, zx_nI, nI_add, nI_mul, znI_le, znI_lt, znI_eq, znI_neg, zgu_t, zgu_f, zbind_s, zlet_e, zb_eq0, zb_eq1, zb_t, zb_f, zleL_0, zleR_0, zltL_0, zltR_0, zeq_0, zxl_0, zil_0, zmL_1, zmR_1, zaL_1, zaR_1, zleL_1, zleR_1, zltL_1, zltR_1, zeq_1, zxl_1, zil_1, zmL_2, zmR_2, zaL_2, zaR_2, zleL_2, zleR_2, zltL_2, zltR_2, zeq_2, zxl_2, zil_2, zmL_3, zmR_3, zaL_3, zaR_3, zleL_3, zleR_3, zltL_3, zltR_3, zeq_3, zxl_3, zil_3, zmL_4, zmR_4, zaL_4, zaR_4, zleL_4, zleR_4, zltL_4, zltR_4, zeq_4, zxl_4, zil_4, zmL_5, zmR_5, zaL_5, zaR_5, zleL_5, zleR_5, zltL_5, zltR_5, zeq_5, zxl_5, zil_5, zmL_6, zmR_6, zaL_6, zaR_6, zleL_6, zleR_6, zltL_6, zltR_6, zeq_6, zxl_6, zil_6, zmL_7, zmR_7, zaL_7, zaR_7, zleL_7, zleR_7, zltL_7, zltR_7, zeq_7, zxl_7, zil_7, zmL_8, zmR_8, zaL_8, zaR_8, zleL_8, zleR_8, zltL_8, zltR_8, zeq_8, zxl_8, zil_8, zmL_9, zmR_9, zaL_9, zaR_9, zleL_9, zleR_9, zltL_9, zltR_9, zeq_9, zxl_9, zil_9, zmL_10, zmR_10, zaL_10, zaR_10, zleL_10, zleR_10, zltL_10, zltR_10, zeq_10, zxl_10, zil_10, zmL_14, zmR_14, zaL_14, zaR_14, zleL_14, zleR_14, zltL_14, zltR_14, zeq_14, zxl_14, zil_14, zmL_15, zmR_15, zaL_15, zaR_15, zleL_15, zleR_15, zltL_15, zltR_15, zeq_15, zxl_15, zil_15, zmL_16, zmR_16, zaL_16, zaR_16, zleL_16, zleR_16, zltL_16, zltR_16, zeq_16, zxl_16, zil_16, zmL_20, zmR_20, zaL_20, zaR_20, zleL_20, zleR_20, zltL_20, zltR_20, zeq_20, zxl_20, zil_20, zmL_22, zmR_22, zaL_22, zaR_22, zleL_22, zleR_22, zltL_22, zltR_22, zeq_22, zxl_22, zil_22, zmL_23, zmR_23, zaL_23, zaR_23, zleL_23, zleR_23, zltL_23, zltR_23, zeq_23, zxl_23, zil_23, zmL_24, zmR_24, zaL_24, zaR_24, zleL_24, zleR_24, zltL_24, zltR_24, zeq_24, zxl_24, zil_24, zmL_25, zmR_25, zaL_25, zaR_25, zleL_25, zleR_25, zltL_25, zltR_25, zeq_25, zxl_25, zil_25, zmL_26, zmR_26, zaL_26, zaR_26, zleL_26, zleR_26, zltL_26, zltR_26, zeq_26, zxl_26, zil_26, zmL_32, zmR_32, zaL_32, zaR_32, zleL_32, zleR_32, zltL_32, zltR_32, zeq_32, zxl_32, zil_32, zmL_40, zmR_40, zaL_40, zaR_40, zleL_40, zleR_40, zltL_40, zltR_40, zeq_40, zxl_40, zil_40, zmL_49, zmR_49, zaL_49, zaR_49, zleL_49, zleR_49, zltL_49, zltR_49, zeq_49, zxl_49, zil_49, zmL_58, zmR_58, zaL_58, zaR_58, zleL_58, zleR_58, zltL_58, zltR_58, zeq_58, zxl_58, zil_58, zmL_99, zmR_99, zaL_99, zaR_99, zleL_99, zleR_99, zltL_99, zltR_99, zeq_99, zxl_99, zil_99, zmL_100, zmR_100, zaL_100, zaR_100, zleL_100, zleR_100, zltL_100, zltR_100, zeq_100, zxl_100, zil_100, zmL_107, zmR_107, zaL_107, zaR_107, zleL_107, zleR_107, zltL_107, zltR_107, zeq_107, zxl_107, zil_107, zmL_126, zmR_126, zaL_126, zaR_126, zleL_126, zleR_126, zltL_126, zltR_126, zeq_126, zxl_126, zil_126, zmL_1000, zmR_1000, zaL_1000, zaR_1000, zleL_1000, zleR_1000, zltL_1000, zltR_1000, zeq_1000, zxl_1000, zil_1000, zmL_1605, zmR_1605, zaL_1605, zaR_1605, zleL_1605, zleR_1605, zltL_1605, zltR_1605, zeq_1605, zxl_1605, zil_1605]
    rw [if_neg (by omega), K.2 p hpl]
    simp (disch := omega) only [zin_t, zx_nI, nI_add, nI_mul, znI_le, znI_lt, znI_eq, znI_neg, zgu_t, zgu_f, zbind_s, zlet_e, zb_eq0, zb_eq1, zb_t, zb_f, zleL_0, zleR_0, zltL_0, zltR_0, zeq_0, zxl_0, zil_0, zmL_1, zmR_1, zaL_1, zaR_1, zleL_1, zleR_1, zltL_1, zltR_1, zeq_1, zxl_1, zil_1, zmL_2, zmR_2, zaL_2, zaR_2, zleL_2, zleR_2, zltL_2, zltR_2, zeq_2, zxl_2, zil_2, zmL_3, zmR_3, zaL_3, zaR_3, zleL_3, zleR_3, zltL_3, zltR_3, zeq_3, zxl_3, zil_3, zmL_4, zmR_4, zaL_4, zaR_4, zleL_4, zleR_4, zltL_4, zltR_4, zeq_4, zxl_4, zil_4, zmL_5, zmR_5, zaL_5, zaR_5, zleL_5, zleR_5, zltL_5, zltR_5, zeq_5, zxl_5, zil_5, zmL_6, zmR_6, zaL_6, zaR_6, zleL_6, zleR_6, zltL_6, zltR_6, zeq_6, zxl_6, zil_6, zmL_7, zmR_7, zaL_7, zaR_7, zleL_7, zleR_7, zltL_7, zltR_7, zeq_7, zxl_7, zil_7, zmL_8, zmR_8, zaL_8, zaR_8, zleL_8, zleR_8, zltL_8, zltR_8, zeq_8, zxl_8, zil_8, zmL_9, zmR_9, zaL_9, zaR_9, zleL_9, zleR_9, zltL_9, zltR_9, zeq_9, zxl_9, zil_9, zmL_10, zmR_10, zaL_10, zaR_10, zleL_10, zleR_10, zltL_10, zltR_10, zeq_10, zxl_10, zil_10, zmL_14, zmR_14, zaL_14, zaR_14, zleL_14, zleR_14, zltL_14, zltR_14, zeq_14, zxl_14, zil_14, zmL_15, zmR_15, zaL_15, zaR_15, zleL_15, zleR_15, zltL_15, zltR_15, zeq_15, zxl_15, zil_15, zmL_16, zmR_16, zaL_16, zaR_16, zleL_16, zleR_16, zltL_16, zltR_16, zeq_16, zxl_16, zil_16, zmL_20, zmR_20, zaL_20, zaR_20, zleL_20, zleR_20, zltL_20, zltR_20, zeq_20, zxl_20, zil_20, zmL_22, zmR_22, zaL_22, zaR_22, zleL_22, zleR_22, zltL_22, zltR_22, zeq_22, zxl_22, zil_22, zmL_23, zmR_23, zaL_23, zaR_23, zleL_23, zleR_23, zltL_23, zltR_23, zeq_23, zxl_23, zil_23, zmL_24, zmR_24, zaL_24, zaR_24, zleL_24, zleR_24, zltL_24, zltR_24, zeq_24, zxl_24, zil_24, zmL_25, zmR_25, zaL_25, zaR_25, zleL_25, zleR_25, zltL_25, zltR_25, zeq_25, zxl_25, zil_25, zmL_26, zmR_26, zaL_26, zaR_26, zleL_26, zleR_26, zltL_26, zltR_26, zeq_26, zxl_26, zil_26, zmL_32, zmR_32, zaL_32, zaR_32, zleL_32, zleR_32, zltL_32, zltR_32, zeq_32, zxl_32, zil_32, zmL_40, zmR_40, zaL_40, zaR_40, zleL_40, zleR_40, zltL_40, zltR_40, zeq_40, zxl_40, zil_40, zmL_49, zmR_49, zaL_49, zaR_49, zleL_49, zleR_49, zltL_49, zltR_49, zeq_49, zxl_49, zil_49, zmL_58, zmR_58, zaL_58, zaR_58, zleL_58, zleR_58, zltL_58, zltR_58, zeq_58, zxl_58, zil_58, zmL_99, zmR_99, zaL_99, zaR_99, zleL_99, zleR_99, zltL_99, zltR_99, zeq_99, zxl_99, zil_99, zmL_100, zmR_100, zaL_100, zaR_100, zleL_100, zleR_100, zltL_100, zltR_100, zeq_100, zxl_100, zil_100, zmL_107, zmR_107, zaL_107, zaR_107, zleL_107, zleR_107, zltL_107, zltR_107, zeq_107, zxl_107, zil_107, zmL_126, zmR_126, zaL_126, zaR_126, zleL_126, zleR_126, zltL_126, zltR_126, zeq_126, zxl_126, zil_126, zmL_1000, zmR_1000, zaL_1000, zaR_1000, zleL_1000, zleR_1000, zltL_1000, zltR_1000, zeq_1000, zxl_1000, zil_1000, zmL_1605, zmR_1605, zaL_1605, zaR_1605, zleL_1605, zleR_1605, zltL_1605, zltR_1605, zeq_1605, zxl_1605, zil_1605]
    cases hl : isB (T.2 p)
    · have hl2 := hl
      unfold isB at hl2
      simp at hl2
      rw [if_neg hl2.2, if_neg hl2.1]
      exact ⟨h, rfl, by unfold tq; rw [zr_stop (f := fun k => isB (T.2 k)) (N := T.1) (p := p) (Or.inr hl)]; exact e, zsm.rf⟩
    · have w1 : zsm AM1 h (zpi h 139 4 (nI (p + 1))) := zsm.pi (by unfold AM1; omega)
      obtain ⟨h2, e2, k2, w2⟩ := ih (p + 1) n (zpi h 139 4 (nI (p + 1))) (by omega) (by omega) (by omega) (K.same w1 (by unfold AM1; omega) (fun k => by unfold AM1; omega)) (by rw [zpi_r, if_pos ⟨rfl, rfl⟩])
      refine ⟨h2, ?_, ?_, w1.tr w2⟩
      · unfold g_X12_nextToken_39
        rw [zlet_e, e, nI_1, e2]
        by_cases c1 : T.2 p = 32
        · rw [if_pos c1]
        · rw [if_neg c1]
          have : T.2 p = 10 := by unfold isB at hl; simp at hl; omega
          rw [if_pos this]
      · rw [k2]
        unfold tq
        rw [zr_step (f := fun k => isB (T.2 k)) (N := T.1) (p := p) hpl hl]
theorem e_nextTokenP (I : TI T) (K : TM T h) (hp : p ≤ T.1) (e4 : h.1 139 4 = nI p) : ∃ h', g_X12_nextToken h 139 = some h' ∧ MT T (tq T p) h' ∧ zsm AM1 h h' := by
  have l := I.1
  obtain ⟨h1, e1, k1, w1⟩ := e_skipM I (T.1 - p) p zfu h rfl hp (by show _ < 4000; omega) K e4
  obtain ⟨h2, e2, k2, w2⟩ := e_52 I (K.same w1 (by unfold AM1; omega) (fun k => by unfold AM1; omega)) (tq_prop hp).2.1 k1
  refine ⟨h2, ?_, k2, w1.tr w2⟩
  unfold g_X12_nextToken
  rw [e1, e2]
theorem e_next (I : TI T) (K : MT T q h) : ∃ h', g_X12_nextToken h 139 = some h' ∧ MT T (tx T q) h' ∧ zsm AM1 h h' := e_nextTokenP I K.1 (te_prop K.2.1).2.1 K.2.2.2.1
theorem MT.same (K : MT T q h) (x : zsm A h h') (hA : ∀ k, 3 ≤ k → k ≤ 8 → ¬ A 139 k) (h2 : ∀ k, ¬ A 140 k) : MT T q h' := by
  obtain ⟨k1, k2, k3, k4, k5, k6, k7⟩ := K
  exact ⟨k1.same x (hA 3 (by omega) (by omega)) h2, k2, by rw [(x _ _ (hA 5 (by omega) (by omega))).1]; exact k3, by rw [(x _ _ (hA 4 (by omega) (by omega))).1]; exact k4, by rw [(x _ _ (hA 6 (by omega) (by omega))).1]; exact k5, fun z => by rw [(x _ _ (hA 7 (by omega) (by omega))).2]; exact k6 z, fun z => by rw [(x _ _ (hA 8 (by omega) (by omega))).1]; exact k7 z⟩
end K5
