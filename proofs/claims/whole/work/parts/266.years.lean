/-! years: a line -/
def AYc : Nat → Nat → Prop := fun a k => (a = 1 ∧ 2 ≤ k ∧ k ≤ 5) ∨ (a = 26 ∧ (k = 2 ∨ k = 3)) ∨ a = 27 ∨ a = 28
def AYm : Nat → Nat → Prop := fun a k => AVm a k ∨ (a = 164 ∧ k = 5) ∨ ((165 ≤ a ∧ a ≤ 167) ∧ 200 ≤ k)
def yadd (Y : zY) (w a b : Nat) : zY := (Y.1 + 1, zu Y.2.1 Y.1 w, zu Y.2.2.1 Y.1 a, zu Y.2.2.2 Y.1 b)
def cliny (h : zH) : Option (Bool × zH) := (g_X10_readLine h 26).bind fun v_7 => if (zb v_7.1) = 0 then (some (false, v_7.2)) else ((g_X4_take_c9 v_7.2 26 11).bind fun v_9 => some (v_9.1, v_9.2))
def JY (T : zTp) (n : Nat) (nm : Nat → List Nat) (q : Nat) (hc hm : zH) (a b : Option (Bool × zH)) : Prop :=
  (∃ f hc' hm', 0 < f ∧ f < 20000 ∧ a = some (false, hc') ∧ hc'.1 26 3 = nI f ∧ zsm AYc hc hc' ∧ b = some (false, hm') ∧ hm'.1 139 9 = nI f ∧ zsm AYm hm hm') ∨
  (∃ Y q' hc' hm', q < q' ∧ YI n Y ∧ a = some (true, hc') ∧ CT T q' hc' ∧ PN 3 4 n nm hc' ∧ YC Y hc' 27 ∧ hc'.1 26 3 = hc.1 26 3 ∧ zsm AYc hc hc' ∧ b = some (true, hm') ∧ MT T q' hm' ∧ PNm 0 n nm hm' ∧ YM Y hm' 5 ∧ zsm AYm hm hm')
section N17
variable {T : zTp} {n q q1 : Nat} {nm : Nat → List Nat} {h h' hc hm hc1 hm1 : zH} {A : Nat → Nat → Prop} {Y Y' : zY} {w a b : Nat}
theorem yadd_I (H : YI n Y) (h40 : Y.1 < 40) (hl : lok n w a b) (ha : a < 7) (hb : b < 7) : YI n (yadd Y w a b) := by
  refine ⟨h40, fun k hk => ?_⟩
  have hk : k < Y.1 + 1 := hk
  show lok n (zu Y.2.1 Y.1 w k) (zu Y.2.2.1 Y.1 a k) (zu Y.2.2.2 Y.1 b k) ∧ zu Y.2.2.1 Y.1 a k < 7 ∧ zu Y.2.2.2 Y.1 b k < 7
  by_cases c : k = Y.1
  · subst c
    rw [zu_s, zu_s, zu_s]; exact ⟨hl, ha, hb⟩
  · rw [zu_n c, zu_n c, zu_n c]; exact H.2 k (by omega)
theorem y_addC (C : YC Y h 27) (h40 : Y.1 < 40) (w a b : Nat) : ∃ h', g_X9_add h 27 (nI (22 + w)) (nI a) (nI b) = some h' ∧ YC (yadd Y w a b) h' 27 ∧ zsm (fun x k => (x = 27 ∧ k = 1) ∨ x = 28) h h' := by
  have l64 : (64 : Int32) * nI (22 + w) = nI (64 * (22 + w)) := nI_mul 64 (22 + w)
  have w1 : zsm (fun x k => x = 28 ∧ k = Y.1) h (zpi h 28 Y.1 (nI (b + 8 * a + 64 * (22 + w)))) := zsm.pi ⟨rfl, rfl⟩
  have k1 : (zpi h 28 Y.1 (nI (b + 8 * a + 64 * (22 + w)))).1 28 Y.1 = nI (b + 8 * a + 64 * (22 + w)) := zpi_s _ _ _ _
  have e : g_X9_add h 27 (nI (22 + w)) (nI a) (nI b) = some (zpi (zpi h 28 Y.1 (nI (b + 8 * a + 64 * (22 + w)))) 27 1 (nI (Y.1 + 1))) := by
    unfold g_X9_add
    rw [C.1, if_neg (by rw [zleL_40 (by omega)]; omega), zin_t h40 (by omega), zgu_t, zx_nI (by omega), zr_27_0, zmL_8, nI_add, l64, nI_add, zlet_e, (w1 27 1 (by omega)).1, C.1, nI_1, zlet_e]
  refine ⟨_, e, ⟨zpi_s _ _ _ _, fun k hk => ?_⟩, (w1.mono (fun x k z => Or.inr z.1)).tr (zsm.pi (Or.inl ⟨rfl, rfl⟩))⟩
  have hk : k < Y.1 + 1 := hk
  show _ = nI (zu Y.2.2.2 Y.1 b k + 8 * zu Y.2.2.1 Y.1 a k + 64 * (22 + zu Y.2.1 Y.1 w k))
  rw [zpi_r, if_neg (by omega)]
  by_cases c : k = Y.1
  · subst c
    rw [zu_s, zu_s, zu_s]; exact k1
  · rw [zu_n c, zu_n c, zu_n c, (w1 _ _ (by omega)).1]; exact C.2 k (by omega)
theorem y_addM (M : YM Y h 5) (e1 : h'.1 165 (200 + Y.1) = nI w) (e2 : w = 1 ∨ w = 2 ∨ w = 3 → h'.1 166 (200 + Y.1) = nI a) (e3 : w = 1 ∨ w = 2 → h'.1 167 (200 + Y.1) = nI b) (e4 : h'.1 164 5 = nI (Y.1 + 1)) (x : zsm (fun x k => AVm x k ∨ (x = 164 ∧ k = 5) ∨ ((165 ≤ x ∧ x ≤ 167) ∧ k = 200 + Y.1)) h h') : YM (yadd Y w a b) h' 5 := by
  refine ⟨e4, fun k hk => ?_⟩
  have hk : k < Y.1 + 1 := hk
  show h'.1 165 (40 * 5 + k) = nI (zu Y.2.1 Y.1 w k) ∧ (zu Y.2.1 Y.1 w k = 1 ∨ zu Y.2.1 Y.1 w k = 2 ∨ zu Y.2.1 Y.1 w k = 3 → h'.1 166 (40 * 5 + k) = nI (zu Y.2.2.1 Y.1 a k)) ∧ (zu Y.2.1 Y.1 w k = 1 ∨ zu Y.2.1 Y.1 w k = 2 → h'.1 167 (40 * 5 + k) = nI (zu Y.2.2.2 Y.1 b k))
  by_cases c : k = Y.1
  · subst c
    rw [zu_s, zu_s, zu_s]; exact ⟨e1, e2, e3⟩
  · have m := M.2 k (by omega)
    rw [zu_n c, zu_n c, zu_n c, (x _ _ (by unfold AVm AM1; omega)).1, (x _ _ (by unfold AVm AM1; omega)).1, (x _ _ (by unfold AVm AM1; omega)).1]; exact m
theorem PN.same {r a : Nat} (P : PN r a n nm h) (x : zsm A h h') (h1 : ∀ k, ¬ A r k) (h2 : ∀ k, ¬ A a k) : PN r a n nm h' := ⟨P.1, by rw [(x _ _ (h1 _)).1]; exact P.2.1, fun p hp => by rw [(x _ _ (h2 _)).2]; exact P.2.2.1 p hp, P.2.2.2⟩
theorem av_yc {a k : Nat} (z : AV 26 a k) : AYc a k := by unfold AV AT1 at z; unfold AYc; omega
theorem JY.fl {c : Nat} {a0 b0 : Option (Bool × zH)} (I : TI T) (hq : q1 ≤ T.1) (hc0 : 0 < c) (hc1' : c < 6) (w1 : zsm AYc hc hc1) (x1 : CF 26 q1 c hc1 a0) (e : g_X10_readLine hc 26 = a0) (w2 : zsm AYm hm hm1) (x2 : MF q1 c hm1 b0) : JY T n nm q hc hm (cliny hc) b0 := by
  have l := I.1
  obtain ⟨h1, e1, k1, u1⟩ := x1
  obtain ⟨h2, e2, k2, u2⟩ := x2
  refine Or.inl ⟨c + 16 * q1, h1, h2, by omega, by omega, ?_, k1, w1.tr (u1.mono (fun a k z => av_yc z)), e2, k2, w2.tr (u2.mono (fun a k z => Or.inl z))⟩
  unfold cliny
  rw [e, e1, zbind_s, zb_f, if_pos rfl]
theorem JY.cl {b0 : Option (Bool × zH)} (I : TI T) (HY : YI n Y') (hq : q < q1) (w1 : zsm AYc hc hc1) (e : g_X10_readLine hc 26 = some (true, hc1)) (K1 : CT T q1 hc1) (P1 : PN 3 4 n nm hc1) (C : YC Y' hc1 27) (e3 : hc1.1 26 3 = hc.1 26 3) (w2 : zsm AYm hm hm1) (e2 : b0 = (g_X12_closes hm1 139).bind fun v_39 => some (v_39.1, v_39.2)) (K2 : MT T q1 hm1) (P2 : PNm 0 n nm hm1) (M : YM Y' hm1 5) : JY T n nm q hc hm (cliny hc) b0 := by
  have l := I.1
  have hq1 := K1.2.1
  have tp := tx_prop (T := T) hq1
  by_cases c : tc T q1 = 11
  · obtain ⟨h3, f3, K3, u3⟩ := c_takeY rd26 I K1 c
    obtain ⟨h4, e4, K4, u4⟩ := m_closesY I K2 c
    refine Or.inr ⟨Y', tx T q1, h3, h4, by omega, HY, ?_, K3, P1.same u3 (fun k => by unfold AT1; omega) (fun k => by unfold AT1; omega), C.same u3 (fun a k _ _ => by unfold AT1; omega), by rw [(u3 _ _ (by unfold AT1; omega)).1]; exact e3, w1.tr (u3.mono (fun a k z => av_yc (Or.inl z))), by rw [e2, e4]; rfl, K4, P2.same u4 (fun k => by unfold AM1; omega) (fun k => by unfold AM1; omega), M.same u4 (fun a k _ _ => by unfold AM1; omega), w2.tr (u4.mono (fun a k z => Or.inl (Or.inl z)))⟩
    have f3' : g_X4_take_c9 hc1 26 11 = some (true, h3) := f3
    unfold cliny
    rw [e, zbind_s, zb_t, if_neg (by decide), f3', zbind_s]
  · obtain ⟨h3, f3, k3, u3⟩ := c_takeN rd26 K1 c (by decide)
    obtain ⟨h4, e4, k4, u4⟩ := m_closesN I K2 c
    refine Or.inl ⟨1 + 16 * q1, h3, h4, by omega, by omega, ?_, k3, w1.tr (u3.mono (fun a k z => av_yc z)), by rw [e2, e4]; rfl, k4, w2.tr (u4.mono (fun a k z => Or.inl z))⟩
    have f3' : g_X4_take_c9 hc1 26 11 = some (false, h3) := f3
    unfold cliny
    rw [e, zbind_s, zb_t, if_neg (by decide), f3', zbind_s]
theorem y_line (I : TI T) (HY : YI n Y) (K1 : CT T q hc) (P1 : PN 3 4 n nm hc) (C : YC Y hc 27) (K2 : MT T q hm) (P2 : PNm 0 n nm hm) (M : YM Y hm 5) (ht : ¬ tc T q = 0) : JY T n nm q hc hm (cliny hc) (g_X12_readsLine hm 139) := by
  have l := I.1
  have hn := P1.1
  have hq := K1.2.1
  have hlt := tc0 hq ht
  have htc := tc_lt T q
  have tp := tx_prop (T := T) hq
  have h40 := HY.1
  have s0 := e_isWord I K2 (i := 10) (by decide) 14631 wl_10
  have s1 := e_isWord I K2 (i := 11) (by decide) 144524 wl_11
  have s2 := e_isWord I K2 (i := 12) (by decide) 60311 wl_12
  have s3 := e_isWord I K2 (i := 13) (by decide) 3164 wl_13
  have s4 := e_isWord I K2 (i := 14) (by decide) 2968 wl_14
  have eb : g_X12_readsLine hm 139 = g_X12_readsLine_71 139 (if 22 ≤ tc T q ∧ tc T q ≤ 26 then nI (tc T q - 22) else -1) hm := by
    unfold g_X12_readsLine
    rw [s0, zbind_s, s1, zbind_s, s2, zbind_s, s3, zbind_s, s4, zbind_s]
    simp only [zb_eq0, decide_eq_false_iff_not]
    by_cases c0 : tc T q = 22
    · rw [if_neg (fun z => z c0), if_pos (by omega), c0]; rfl
    · rw [if_pos c0]
      by_cases c1 : tc T q = 23
      · rw [if_neg (fun z => z c1), if_pos (by omega), c1]; rfl
      · rw [if_pos c1]
        by_cases c2 : tc T q = 24
        · rw [if_neg (fun z => z c2), if_pos (by omega), c2]; rfl
        · rw [if_pos c2]
          by_cases c3 : tc T q = 25
          · rw [if_neg (fun z => z c3), if_pos (by omega), c3]; rfl
          · rw [if_pos c3]
            by_cases c4 : tc T q = 26
            · rw [if_neg (fun z => z c4), if_pos (by omega), c4]; rfl
            · rw [if_pos c4, if_neg (show ¬ (22 ≤ tc T q ∧ tc T q ≤ 26) by omega)]
  have ec0 : g_X10_readLine hc 26 = if tc T q < 22 then (g_X10_readLine_20 26 hc) else (if tc T q ≤ 26 then (if Y.1 < 40 then ((g_X8_lookAtNext hc 1).bind fun v_5 => if tc T q = 22 then (g_X10_readLine_88 26 (nI (tc T q)) 0 0 v_5) else (if tc T q = 26 then (g_X10_readLine_88 26 (nI (tc T q)) 0 0 v_5) else ((g_X4_findPerson_c5 v_5 26).bind fun v_8 => if (zb v_8.1) = 0 then (some (false, v_8.2)) else ((g_X8_lookAtNext v_8.2 1).bind fun v_10 => g_X10_readLine_88 26 (nI (tc T q)) (v_8.2.1 26 2) 0 v_10)))) else ((g_X4_fail_c5 hc 26 5).bind fun v_11 => some (v_11.1, v_11.2))) else (g_X10_readLine_20 26 hc)) := by
    unfold g_X10_readLine
    rw [rd26.1, zr_26_4, K1.2.2.2.2.1, zlet_e, C.1, c9_find, c9_fail]
    simp only [zltR_22 (show tc T q < 2147483648 by omega), zleR_26 (show tc T q < 2147483648 by omega), zltR_40 (show Y.1 < 2147483648 by omega), zeq_22 (show tc T q < 2147483648 by omega), zeq_26 (show tc T q < 2147483648 by omega)]
  by_cases ck : 22 ≤ tc T q ∧ tc T q ≤ 26
  · rw [if_pos ck] at eb
    rw [if_neg (by omega), if_pos ck.2] at ec0
    obtain ⟨w, hw⟩ : ∃ w, tc T q = 22 + w := ⟨tc T q - 22, by omega⟩
    have hw4 : w ≤ 4 := by omega
    rw [show tc T q - 22 = w by omega] at eb
    unfold g_X12_readsLine_71 at eb
    rw [if_pos (by rw [zleL_0 (by omega)]; omega), zil_5 (show 5 < 6 by decide), zgu_t, zr_139_37, zxl_5, M.1] at eb
    simp only [zeq_40 (show Y.1 < 2147483648 by omega)] at eb
    by_cases c40 : Y.1 < 40
    · rw [if_pos c40] at ec0
      rw [if_neg (by omega)] at eb
      obtain ⟨h1, e1, X1, w1⟩ := e_look I K1
      obtain ⟨g1, f1, Y1, v1⟩ := e_next I K2
      rw [e1, zbind_s] at ec0
      have m5 : g1.1 164 5 = nI Y.1 := by rw [(v1 _ _ (by unfold AM1; omega)).1]; exact M.1
      have a200 : (200 : Int32) + nI Y.1 = nI (200 + Y.1) := nI_add 200 Y.1
      rw [f1, zbind_s, zgu_t, m5, a200, zlet_e, zin_t (show 200 + Y.1 < 240 by omega) (by omega), zgu_t, zx_nI (by omega), zr_139_38, zlet_e] at eb
      have v2 : zsm (fun x k => x = 165 ∧ k = 200 + Y.1) g1 (zpi g1 165 (200 + Y.1) (nI w)) := zsm.pi ⟨rfl, rfl⟩
      have y2 : (zpi g1 165 (200 + Y.1) (nI w)).1 165 (200 + Y.1) = nI w := zpi_s _ _ _ _
      have Y2 : MT T (tx T q) (zpi g1 165 (200 + Y.1) (nI w)) := Y1.same v2 (fun j _ _ => by omega) (fun j => by omega)
      generalize zpi g1 165 (200 + Y.1) (nI w) = g2 at *
      have u1 : zsm AYc hc h1 := w1.mono (fun a k z => av_yc (Or.inl z))
      have t2 : zsm (fun x k => AVm x k ∨ (x = 164 ∧ k = 5) ∨ ((165 ≤ x ∧ x ≤ 167) ∧ k = 200 + Y.1)) hm g2 := (v1.mono (fun x k z => Or.inl (Or.inl z))).tr (v2.mono (fun x k z => Or.inr (by omega)))
      have t2' : zsm AYm hm g2 := t2.mono (fun x k z => by
        rcases z with z | z
        · exact Or.inl z
        · exact Or.inr (by omega))
      have Q1 : PN 3 4 n nm h1 := P1.same w1 (fun k => by unfold AT1; omega) (fun k => by unfold AT1; omega)
      have Q2 : PNm 0 n nm g2 := P2.same t2 (fun k => by unfold AVm AM1; omega) (fun k => by unfold AVm AM1; omega)
      have C1 : YC Y h1 27 := C.same w1 (fun a k _ _ => by unfold AT1; omega)
      have r1 : h1.1 26 3 = hc.1 26 3 := (w1 _ _ (by unfold AT1; omega)).1
      have ew1 : (nI w = 1) = (w = 1) := zeq_1 (by omega)
      have ew2 : (nI w = 2) = (w = 2) := zeq_2 (by omega)
      have ew3 : (nI w = 3) = (w = 3) := zeq_3 (by omega)
      simp only [ew1, ew2, ew3] at eb
      generalize hq1 : tx T q = q1 at *
      -- the end of all
      have fin : ∀ {a b q2 : Nat} {h3 g3 : zH} {b0 : Option (Bool × zH)}, lok n w a b → a < 7 → b < 7 → q < q2 → zsm AYc hc h3 → h3.1 26 3 = hc.1 26 3 → CT T q2 h3 → PN 3 4 n nm h3 → YC Y h3 27 → g_X10_readLine hc 26 = g_X10_readLine_122 26 (nI (22 + w)) (nI a) (nI b) h3 → zsm (fun x k => AVm x k ∨ (x = 164 ∧ k = 5) ∨ ((165 ≤ x ∧ x ≤ 167) ∧ k = 200 + Y.1)) hm g3 → MT T q2 g3 → PNm 0 n nm g3 → g3.1 164 5 = nI Y.1 → g3.1 165 (200 + Y.1) = nI w → (w = 1 ∨ w = 2 ∨ w = 3 → g3.1 166 (200 + Y.1) = nI a) → (w = 1 ∨ w = 2 → g3.1 167 (200 + Y.1) = nI b) → b0 = g_X12_readsLine_197 139 g3 → JY T n nm q hc hm (cliny hc) b0 := by
        intro a b q2 h3 g3 b0 hl ha hb hq2 u3 r3 X3 Q3 C3 e3 t3 Y3 R3 n5 n6 n7 n8 f3
        obtain ⟨h4, e4, C4, w4⟩ := y_addC C3 c40 w a b
        have v4 : zsm (fun x k => x = 164 ∧ k = 5) g3 (zpi g3 164 5 (nI (Y.1 + 1))) := zsm.pi ⟨rfl, rfl⟩
        have t4 : zsm (fun x k => AVm x k ∨ (x = 164 ∧ k = 5) ∨ ((165 ≤ x ∧ x ≤ 167) ∧ k = 200 + Y.1)) hm (zpi g3 164 5 (nI (Y.1 + 1))) := t3.tr (v4.mono (fun x k z => Or.inr (Or.inl z)))
        refine JY.cl I (yadd_I HY c40 hl ha hb) hq2 (u3.tr (w4.mono (fun x k z => by unfold AYc; omega))) (hc1 := h4) (hm1 := zpi g3 164 5 (nI (Y.1 + 1))) ?_ (X3.same w4 (fun k => by omega) (fun k => by omega)) (Q3.same w4 (fun k => by omega) (fun k => by omega)) C4 (by rw [(w4 _ _ (by omega)).1]; exact r3) (t4.mono (fun x k z => by
          rcases z with z | z
          · exact Or.inl z
          · exact Or.inr (by omega))) ?_ (Y3.same v4 (fun j _ _ => by omega) (fun j => by omega)) (R3.same v4 (fun k => by omega) (fun k => by omega)) (y_addM M ?_ (fun z => ?_) (fun z => ?_) (zpi_s _ _ _ _) t4)
        · rw [e3]
          unfold g_X10_readLine_122
          rw [zr_26_4, e4, zbind_s]
        · rw [f3]
          unfold g_X12_readsLine_197
          rw [zil_5 (show 5 < 6 by decide), zgu_t, zgu_t, zr_139_37, zxl_5, n5, nI_1, zlet_e]
        · rw [(v4 _ _ (by omega)).1]; exact n6
        · rw [(v4 _ _ (by omega)).1]; exact n7 z
        · rw [(v4 _ _ (by omega)).1]; exact n8 z
      have n25 : g2.1 164 5 = nI Y.1 := by rw [(v2 _ _ (by omega)).1]; exact m5
      by_cases c2 : w = 1 ∨ w = 2
      · have eb' : g_X12_readsLine hm 139 = g_X12_readsLine_131 139 (nI (200 + Y.1)) g2 := by
          rw [eb]
          rcases c2 with c | c
          · rw [if_pos c]
          · rw [if_neg (by omega), if_pos c]
        have e88 : ∀ (x y : Int32) (k : zH), g_X10_readLine_88 26 (nI (22 + w)) x y k = g_X10_readLine_100 26 (nI (22 + w)) x k := by
          intro x y k
          unfold g_X10_readLine_88
          simp only [zeq_23 (show 22 + w < 2147483648 by omega), zeq_24 (show 22 + w < 2147483648 by omega)]
          rcases c2 with c | c
          · rw [if_pos (by omega)]
          · rw [if_neg (by omega), if_pos (by omega)]
        rw [if_neg (by omega), if_neg (by omega), hw] at ec0
        simp only [e88] at ec0
        unfold g_X12_readsLine_131 at eb'
        have tp1 := tx_prop (T := T) X1.2.1
        rcases m_two I Y2 Q2 with ⟨x2, d1⟩ | ⟨x2, d1, d2⟩ | ⟨p, d1, d2, y⟩
        · have x1 := c_find1 rd26 X1 d1
          exact JY.fl I X1.2.1 (by decide) (by decide) u1 (x1.go (fun h' z => by rw [ec0, z]; rfl)) rfl t2' (x2.go (fun h' z => by rw [eb']; show (g_X12_needsTwo g2 139 (nI 0)).bind _ = _; rw [z]; rfl))
        · have x1 := c_find2 rd26 I X1 Q1 d1 d2
          exact JY.fl I X1.2.1 (by decide) (by decide) u1 (x1.go (fun h' z => by rw [ec0, z]; rfl)) rfl t2' (x2.go (fun h' z => by rw [eb']; show (g_X12_needsTwo g2 139 (nI 0)).bind _ = _; rw [z]; rfl))
        · have lp := fnd_lt d2
          obtain ⟨h2, e2, X2, k2, w2⟩ := c_findY rd26 I X1 Q1 d1 d2
          obtain ⟨h3, e3, X3, w3⟩ := e_look I X2
          have ec1 : g_X10_readLine hc 26 = g_X10_readLine_100 26 (nI (22 + w)) (nI p) h3 := by rw [ec0, e2, zbind_s, zb_t, if_neg (by decide), e3, zbind_s, k2]
          have w3' : zsm AYc h1 h3 := (w2.mono (fun x k z => by unfold AYc; omega)).tr (w3.mono (fun a k z => av_yc (Or.inl z)))
          have u3 : zsm AYc hc h3 := u1.tr w3'
          have r3 : h3.1 26 3 = hc.1 26 3 := by rw [(w3 _ _ (by unfold AT1; omega)).1, (w2 _ _ (by omega)).1]; exact r1
          have Q3 : PN 3 4 n nm h3 := Q1.same w3' (fun k => by unfold AYc; omega) (fun k => by unfold AYc; omega)
          have C3 : YC Y h3 27 := (C1.same w2 (fun a k _ _ => by omega)).same w3 (fun a k _ _ => by unfold AT1; omega)
          unfold g_X10_readLine_100 at ec1
          rw [c9_other, rd26.1] at ec1
          rcases y with ⟨x2, y1⟩ | ⟨x2, y1, y2'⟩ | ⟨x2, y1, y2'⟩ | ⟨p2, g3, y1, y2', y3, y4, y5, y6, y7, y8⟩
          · have x1 := c_other1 rd26 X3 y1 (nI p)
            exact JY.fl I X3.2.1 (by decide) (by decide) u3 (x1.go (fun h' z => by rw [ec1, z]; rfl)) rfl t2' (x2.go (fun h' z => by rw [eb']; show (g_X12_needsTwo g2 139 (nI 0)).bind _ = _; rw [z]; rfl))
          · have x1 := c_other2 rd26 I X3 Q3 y1 y2' (nI p)
            exact JY.fl I X3.2.1 (by decide) (by decide) u3 (x1.go (fun h' z => by rw [ec1, z]; rfl)) rfl t2' (x2.go (fun h' z => by rw [eb']; show (g_X12_needsTwo g2 139 (nI 0)).bind _ = _; rw [z]; rfl))
          · have x1 := c_other3 rd26 I X3 Q3 y1 y2'
            exact JY.fl I X3.2.1 (by decide) (by decide) u3 (x1.go (fun h' z => by rw [ec1, z]; rfl)) rfl t2' (x2.go (fun h' z => by rw [eb']; show (g_X12_needsTwo g2 139 (nI 0)).bind _ = _; rw [z]; rfl))
          · have lp2 := fnd_lt y2'
            obtain ⟨h4, e4, X4, k4, w4⟩ := c_otherY rd26 I X3 Q3 y1 y2' (by omega) y3
            obtain ⟨h5, e5, X5, w5⟩ := e_look I X4
            have tp2 := tx_prop (T := T) X3.2.1
            rw [e4, zbind_s, zb_t, if_neg (by decide), k4, zlet_e, e5, zbind_s] at ec1
            have w5' : zsm AYc h3 h5 := (w4.mono (fun x k z => by unfold AYc; omega)).tr (w5.mono (fun a k z => av_yc (Or.inl z)))
            have y4 : g_X12_needsTwo g2 139 0 = some (true, g3) := y4
            have v4 : zsm (fun x k => (x = 166 ∨ x = 167) ∧ k = 200 + Y.1) g3 (zpi (zpi g3 166 (200 + Y.1) (nI p)) 167 (200 + Y.1) (nI p2)) := (zsm.pi ⟨Or.inl rfl, rfl⟩).tr (zsm.pi ⟨Or.inr rfl, rfl⟩)
            have j1 : (zpi (zpi g3 166 (200 + Y.1) (nI p)) 167 (200 + Y.1) (nI p2)).1 166 (200 + Y.1) = nI p := by rw [zpi_r, if_neg (by omega), zpi_s]
            have j2 : (zpi (zpi g3 166 (200 + Y.1) (nI p)) 167 (200 + Y.1) (nI p2)).1 167 (200 + Y.1) = nI p2 := zpi_s _ _ _ _
            have j3 : (zpi g3 166 (200 + Y.1) (nI p)).1 139 35 = nI p2 := by rw [zpi_r, if_neg (by omega)]; exact y7
            rw [y4, zbind_s, zb_t, if_neg (by decide), zin_t (show 200 + Y.1 < 240 by omega) (by omega), zgu_t, zx_nI (by omega), zr_139_39, y6, zlet_e, zgu_t, zr_139_40, j3, zlet_e] at eb'
            generalize zpi (zpi g3 166 (200 + Y.1) (nI p)) 167 (200 + Y.1) (nI p2) = g4 at *
            obtain ⟨g5, f5, Y5, v5⟩ := e_next I (y5.same v4 (fun j _ _ => by omega) (fun j => by omega))
            rw [f5, zbind_s] at eb'
            have t5 : zsm (fun x k => AVm x k ∨ (x = 164 ∧ k = 5) ∨ ((165 ≤ x ∧ x ≤ 167) ∧ k = 200 + Y.1)) g2 g5 := (y8.mono (fun x k z => Or.inl z)).tr ((v4.mono (fun x k z => Or.inr (by omega))).tr (v5.mono (fun x k z => Or.inl (Or.inl z))))
            refine fin (a := p) (b := p2) ⟨hw4, fun _ => ⟨lp, lp2⟩, fun z => by omega⟩ (by omega) (by omega) (by omega) (u3.tr w5') (by rw [(w5 _ _ (by unfold AT1; omega)).1, (w4 _ _ (by omega)).1]; exact r3) X5 (Q3.same w5' (fun k => by unfold AYc; omega) (fun k => by unfold AYc; omega)) ((C3.same w4 (fun a k _ _ => by omega)).same w5 (fun a k _ _ => by unfold AT1; omega)) ec1 (t2.tr t5) Y5 (Q2.same t5 (fun k => by unfold AVm AM1; omega) (fun k => by unfold AVm AM1; omega)) ?_ ?_ (fun _ => ?_) (fun _ => ?_) eb'
            · rw [(v5 _ _ (by unfold AM1; omega)).1, (v4 _ _ (by omega)).1, (y8 _ _ (by unfold AVm AM1; omega)).1]; exact n25
            · rw [(v5 _ _ (by unfold AM1; omega)).1, (v4 _ _ (by omega)).1, (y8 _ _ (by unfold AVm AM1; omega)).1]; exact y2
            · rw [(v5 _ _ (by unfold AM1; omega)).1]; exact j1
            · rw [(v5 _ _ (by unfold AM1; omega)).1]; exact j2
      · by_cases c3 : w = 3
        · rw [if_neg (by omega), if_neg (by omega), if_pos c3] at eb
          have e88 : ∀ (x y : Int32) (k : zH), g_X10_readLine_88 26 (nI (22 + w)) x y k = g_X10_readLine_122 26 (nI (22 + w)) x y k := by
            intro x y k
            unfold g_X10_readLine_88
            simp only [zeq_23 (show 22 + w < 2147483648 by omega), zeq_24 (show 22 + w < 2147483648 by omega)]
            rw [if_neg (by omega), if_neg (by omega)]
          rw [if_neg (by omega), if_neg (by omega), hw] at ec0
          simp only [e88] at ec0
          cases d1 : tnm T q1
          · have x1 := c_find1 rd26 X1 d1
            have x2 := m_find1 I Y2 d1 0
            exact JY.fl I X1.2.1 (by decide) (by decide) u1 (x1.go (fun h' z => by rw [ec0, z]; rfl)) rfl t2' (x2.go (fun h' z => by rw [eb, z]; rfl))
          · cases d2 : fnd n nm (tl T q1) with
            | none =>
              have x1 := c_find2 rd26 I X1 Q1 d1 d2
              have x2 : MF q1 2 g2 (g_X12_needsPerson g2 139 0) := m_find2 I Y2 Q2 d1 d2
              exact JY.fl I X1.2.1 (by decide) (by decide) u1 (x1.go (fun h' z => by rw [ec0, z]; rfl)) rfl t2' (x2.go (fun h' z => by rw [eb, z]; rfl))
            | some p =>
              have lp := fnd_lt d2
              have tp1 := tx_prop (T := T) X1.2.1
              obtain ⟨h2, e2, X2, k2, w2⟩ := c_findY rd26 I X1 Q1 d1 d2
              obtain ⟨h3, e3, X3, w3⟩ := e_look I X2
              rw [e2, zbind_s, zb_t, if_neg (by decide), e3, zbind_s, k2] at ec0
              have w3' : zsm AYc h1 h3 := (w2.mono (fun x k z => by unfold AYc; omega)).tr (w3.mono (fun a k z => av_yc (Or.inl z)))
              obtain ⟨g3, f3, Y3, y3, v3⟩ := m_findY I Y2 Q2 d1 d2
              have f3 : g_X12_needsPerson g2 139 0 = some (true, g3) := f3
              have v4 : zsm (fun x k => x = 166 ∧ k = 200 + Y.1) g3 (zpi g3 166 (200 + Y.1) (nI p)) := zsm.pi ⟨rfl, rfl⟩
              have j1 : (zpi g3 166 (200 + Y.1) (nI p)).1 166 (200 + Y.1) = nI p := zpi_s _ _ _ _
              rw [f3, zbind_s, zb_t, if_neg (by decide), zgu_t, zr_139_39, y3, zlet_e] at eb
              generalize zpi g3 166 (200 + Y.1) (nI p) = g4 at *
              obtain ⟨g5, f5, Y5, v5⟩ := e_next I (Y3.same v4 (fun j _ _ => by omega) (fun j => by omega))
              rw [f5, zbind_s] at eb
              have t5 : zsm (fun x k => AVm x k ∨ (x = 164 ∧ k = 5) ∨ ((165 ≤ x ∧ x ≤ 167) ∧ k = 200 + Y.1)) g2 g5 := (v3.mono (fun x k z => Or.inl (Or.inr (by omega)))).tr ((v4.mono (fun x k z => Or.inr (by omega))).tr (v5.mono (fun x k z => Or.inl (Or.inl z))))
              refine fin (a := p) (b := 0) ⟨hw4, fun z => by omega, fun _ => lp⟩ (by omega) (by omega) (by omega) (u1.tr w3') (by rw [(w3 _ _ (by unfold AT1; omega)).1, (w2 _ _ (by omega)).1]; exact r1) X3 (Q1.same w3' (fun k => by unfold AYc; omega) (fun k => by unfold AYc; omega)) ((C1.same w2 (fun a k _ _ => by omega)).same w3 (fun a k _ _ => by unfold AT1; omega)) ec0 (t2.tr t5) Y5 (Q2.same t5 (fun k => by unfold AVm AM1; omega) (fun k => by unfold AVm AM1; omega)) ?_ ?_ (fun _ => ?_) (fun z => by omega) eb
              · rw [(v5 _ _ (by unfold AM1; omega)).1, (v4 _ _ (by omega)).1, (v3 _ _ (by omega)).1]; exact n25
              · rw [(v5 _ _ (by unfold AM1; omega)).1, (v4 _ _ (by omega)).1, (v3 _ _ (by omega)).1]; exact y2
              · rw [(v5 _ _ (by unfold AM1; omega)).1]; exact j1
        · rw [if_neg (by omega), if_neg (by omega), if_neg c3] at eb
          have ec1 : g_X10_readLine hc 26 = g_X10_readLine_88 26 (nI (22 + w)) 0 0 h1 := by
            rw [ec0, hw]
            by_cases c0 : w = 0
            · rw [if_pos (by omega)]
            · rw [if_neg (by omega), if_pos (by omega)]
          unfold g_X10_readLine_88 at ec1
          simp only [zeq_23 (show 22 + w < 2147483648 by omega), zeq_24 (show 22 + w < 2147483648 by omega)] at ec1
          rw [if_neg (by omega), if_neg (by omega)] at ec1
          exact fin (a := 0) (b := 0) ⟨hw4, fun z => by omega, fun z => by omega⟩ (by omega) (by omega) (by omega) u1 r1 X1 Q1 C1 ec1 t2 Y2 Q2 n25 y2 (fun z => by omega) (fun z => by omega) eb
    · rw [if_neg c40] at ec0
      rw [if_pos (by omega)] at eb
      exact JY.fl I hq (by decide) (by decide) zsm.rf ((c_failb rd26 K1 5).go (fun h' z => by rw [ec0]; exact z)) rfl zsm.rf ((m_failb K2 5).go (fun h' z => by rw [eb]; exact z))
  · rw [if_neg ck] at eb
    unfold g_X12_readsLine_71 at eb
    rw [if_neg (by decide)] at eb
    have ec1 : g_X10_readLine hc 26 = g_X10_readLine_20 26 hc := by
      rw [ec0]
      by_cases d : tc T q < 22
      · rw [if_pos d]
      · rw [if_neg d, if_neg (by omega)]
    exact JY.fl I hq (by decide) (by decide) zsm.rf ((c_failb rd26 K1 1).go (fun h' z => by rw [ec1]; exact z)) rfl zsm.rf ((m_failb K2 1).go (fun h' z => by rw [eb]; exact z))
end N17
