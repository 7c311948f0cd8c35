/-! reading: lines that are told once: dead, ties -/
section N5
variable {T : zTp} {q q1 t r a : Nat} {h h' hc hm hc1 hm1 : zH} {A : Nat → Nat → Prop} {D : zDr} {R : zRp} {g : zLaw} {i len : Nat}
theorem c_eitherN (X : RD t r a) (K : CT T q h) {x y : Nat} (hx : ¬ tc T q = x) (hy : ¬ tc T q = y) (bx : x < 100) (by' : y < 100) : CF t q 1 h (g_X4_takeEither_c5 h t (nI x) (nI y)) := by
  have := tc_lt T q
  unfold g_X4_takeEither_c5
  rw [X.1, K.2.2.2.2.1, if_neg (by rw [znI_eq (by omega) (by omega)]; exact hx), if_neg (by rw [znI_eq (by omega) (by omega)]; exact hy)]
  exact c_failb X K 1
theorem c_eitherY (X : RD t r a) (I : TI T) (K : CT T q h) {x y : Nat} (hx : tc T q = x ∨ tc T q = y) (bx : x < 100) (by' : y < 100) : ∃ h', g_X4_takeEither_c5 h t (nI x) (nI y) = some (true, h') ∧ CT T (tx T q) h' ∧ h'.1 t 2 = zb (decide (tc T q = y)) ∧ zsm (AV t) h h' := by
  have := tc_lt T q
  have ht := X.2.2.2
  obtain ⟨h3, e3, K3, w3⟩ := e_look I (K.vl ht 2 (zb (decide (tc T q = y))))
  refine ⟨h3, ?_, K3, by rw [(w3 _ _ (by unfold AT1; omega)).1, zpi_s], (zsm.pi (Or.inr ⟨rfl, Or.inl rfl⟩)).tr (w3.mono (fun a k z => Or.inl z))⟩
  have e28 : g_X4_takeEither_c5_28 t (nI y) h = some (true, h3) := by
    unfold g_X4_takeEither_c5_28 g_X4_takeEither_c5_45
    rw [X.1, K.2.2.2.2.1]
    simp only [znI_eq (show tc T q < 2147483648 by omega) (show y < 2147483648 by omega)]
    by_cases c : tc T q = y
    · rw [decide_eq_true c] at e3
      rw [if_pos c, zlet_e]
      have e3' : g_X8_lookAtNext (zpi h t 2 1) 1 = some h3 := e3
      rw [e3', zbind_s]
    · rw [decide_eq_false c] at e3
      rw [if_neg c, zlet_e]
      have e3' : g_X8_lookAtNext (zpi h t 2 0) 1 = some h3 := e3
      rw [e3', zbind_s]
  unfold g_X4_takeEither_c5
  rw [X.1, K.2.2.2.2.1]
  by_cases c : tc T q = x
  · rw [if_pos (by rw [c]), e28]
  · rw [if_neg (by rw [znI_eq (by omega) (by omega)]; intro z; omega), if_pos (by rw [hx.resolve_left c]), e28]
theorem l_dead (I : TI T) (J : DI D) (K1 : CT T q hc) (C : DCd D q hc) (K2 : MT T q hm) (M : DMd D q hm) (ht : tc T q = 18) : JL T q hc hm (clin hc) (g_X12_readsWhich hm 139 2 388609 6409157) := by
  have hq := K1.2.1
  have hlt := tc0 hq (by omega)
  have tp := tx_prop (T := T) hq
  have e0 : g_X6_readLine hc 13 = g_X6_readDead hc 13 := by rw [rl_k K1, ht]; rfl
  have ho : onc D 1 = don D 1 := rfl
  cases hd : don D 1
  · obtain ⟨h1, m, e1, X1, m1, m2, m3, w1⟩ := c_onceN I K1 C (i := 1) (by decide) ht (by rw [ho, hd])
    obtain ⟨g1, mm, f1, n1, n2, n3, v1⟩ := m_twiceN M (i := 1) (by decide) hd
    have f1 : g_X12_isTwice hm 139 2 = some (false, g1) := f1
    have Y1 : MT T q g1 := K2.same v1 (fun k _ _ => by omega) (fun k => by omega)
    obtain ⟨g2, f2, Y2, v2⟩ := e_next I Y1
    have u1 : zsm AWc hc h1 := w1.mono (fun a k z => by unfold AT1 at z; unfold AWc; omega)
    have u2 : zsm AWm hm g2 := (v1.mono (fun a k z => by unfold AWm; omega)).tr (v2.mono (fun a k z => by unfold AM1 at z; unfold AWm; omega))
    have ec : g_X6_readDead hc 13 = (g_X4_takeEither_c5 h1 13 27 28).bind fun v_3 => if (zb v_3.1) = 0 then (some (false, v_3.2)) else (if (v_3.2.1 13 2) = 1 then (some (true, zpi v_3.2 14 9 1)) else (some (true, zpi v_3.2 14 9 0))) := by
      unfold g_X6_readDead g_X6_readDead_37
      rw [e1, zbind_s, zb_t, if_neg (by decide), rd13.2.1]; rfl
    have s1 := e_isWord I Y2 (i := 15) (by decide) 388609 wl_15
    have s2 := e_isWord I Y2 (i := 16) (by decide) 6409157 wl_16
    have em : g_X12_readsWhich hm 139 2 388609 6409157 = if tc T (tx T q) = 27 ∨ tc T (tx T q) = 28 then ((g_X12_nextToken (zpi g2 141 6 (zb (decide (tc T (tx T q) = 28)))) 139).bind fun v_14 => (g_X12_closes v_14 139).bind fun v_15 => some (v_15.1, v_15.2)) else ((g_X12_fails g2 139 1).bind fun v_8 => some (v_8.1, v_8.2)) := by
      have e62 : ∀ b : Bool, g_X12_readsWhich_62 139 (zb b) (4 + 2) g2 = ((g_X12_nextToken (zpi g2 141 6 (zb b)) 139).bind fun v_14 => (g_X12_closes v_14 139).bind fun v_15 => some (v_15.1, v_15.2)) := by
        intro b
        unfold g_X12_readsWhich_62
        rw [show ((4 : Int32) + 2) = nI 6 from rfl, zin_t (by decide) (by decide), zgu_t, zx_nI (by decide), zr_139_10, zlet_e]
      have e41 : g_X12_readsWhich_41 139 2 6409157 g2 = ((g_X12_nextToken (zpi g2 141 6 (zb (decide (tc T (tx T q) = 28)))) 139).bind fun v_14 => (g_X12_closes v_14 139).bind fun v_15 => some (v_15.1, v_15.2)) := by
        unfold g_X12_readsWhich_41
        rw [s2, zbind_s]
        by_cases c : tc T (tx T q) = 28
        · rw [show (12 + 16) = 28 from rfl, decide_eq_true c, zb_t, if_neg (by decide)]; exact e62 true
        · rw [show (12 + 16) = 28 from rfl, decide_eq_false c, zb_f, if_pos rfl]; exact e62 false
      unfold g_X12_readsWhich
      rw [f1, zbind_s, zb_f, if_pos rfl, f2, zbind_s, s1, zbind_s, s2, zbind_s, e41]
      simp only [zb_eq0, decide_eq_false_iff_not]
      by_cases c1 : tc T (tx T q) = 27
      · rw [if_neg (fun z => z c1), if_pos (Or.inl c1)]
      · rw [if_pos c1]
        by_cases c2 : tc T (tx T q) = 28
        · rw [if_neg (fun z => z c2), if_pos (Or.inr c2)]
        · rw [if_pos c2, if_neg (show ¬ (tc T (tx T q) = 27 ∨ tc T (tx T q) = 28) by omega)]
    by_cases cx : tc T (tx T q) = 27 ∨ tc T (tx T q) = 28
    · rw [if_pos cx] at em
      obtain ⟨h2, e2, X2, k2, w2⟩ := c_eitherY rd13 I X1 (x := 27) (y := 28) cx (by decide) (by decide)
      have e2 : g_X4_takeEither_c5 h1 13 27 28 = some (true, h2) := e2
      generalize hb : decide (tc T (tx T q) = 28) = b at em k2
      have v3 : zsm (fun a k => a = 141 ∧ k = 6) g2 (zpi g2 141 6 (zb b)) := zsm.pi ⟨rfl, rfl⟩
      obtain ⟨g4, f4, Y4, v4⟩ := e_next I (Y2.same v3 (fun k _ _ => by omega) (fun k => by omega))
      have tp2 := tx_prop (T := T) tp.2.1
      have w4 : zsm (fun a k => a = 14 ∧ k = 9) h2 (zpi h2 14 9 (zb b)) := zsm.pi ⟨rfl, rfl⟩
      have wa : zsm (fun a k => AT1 a k ∨ (a = 13 ∧ (k = 5 ∨ k = 2 ∨ k = 3)) ∨ (a = 14 ∧ k = 9)) hc (zpi h2 14 9 (zb b)) := ((w1.mono (fun a k z => by unfold AT1 at z ⊢; omega)).tr (w2.mono (fun a k z => by unfold AV AT1 at z; unfold AT1; omega))).tr (w4.mono (fun a k z => by omega))
      have va : zsm (fun a k => AVm a k ∨ (a = 139 ∧ k = 22) ∨ (a = 141 ∧ k = 6)) hm g4 := (((v1.mono (fun a k z => by omega)).tr (v2.mono (fun a k z => Or.inl (Or.inl z)))).tr (v3.mono (fun a k z => by omega))).tr (v4.mono (fun a k z => Or.inl (Or.inl z)))
      refine JL.cl (D := ((rn (dR D), rk (dR D), ra (dR D), re (dR D), rh (dR D), b, ry (dR D), rb (dR D), rg (dR D), rs (dR D)), dnm D, dgr D, onA 1 D)) (hc1 := zpi h2 14 9 (zb b)) (hm1 := g4) (q1 := tx T (tx T q)) I J (by omega) (wa.mono (fun a k z => by unfold AT1 at z; unfold AWc; omega)) ?_ (X2.vl (by decide) _ _) ?_ (va.mono (fun a k z => by unfold AVm AM1 at z; unfold AWm; omega)) ?_ Y4 ?_
      · rw [e0, ec, e2, zbind_s, zb_t, if_neg (by decide), k2]
        cases b <;> rfl
      · refine C.fld wa (fun a k _ _ => by unfold AT1; omega) (by unfold AT1; omega) ?_ ?_ ?_ ⟨m, m1, ?_, fun i hi => by rw [m3 i hi, onc_set (by decide)]⟩ (by omega)
        · rw [(wa _ _ (by unfold AT1; omega)).1]; exact C.1.2.1
        · rw [zpi_s]
        · rw [(wa _ _ (by unfold AT1; omega)).1]; exact C.1.2.2.2.1
        · rw [(w4 _ _ (by omega)).1, (w2 _ _ (by unfold AV AT1; omega)).1]; exact m2
      · rw [em, f4, zbind_s]
      · refine M.fld va (fun a k _ _ => by unfold AVm AM1; omega) (by unfold AVm AM1; omega) (by unfold AVm AM1; omega) ?_ ?_ ?_ ⟨mm, n1, ?_, n3⟩ (by omega)
        · rw [(va _ _ (by unfold AVm AM1; omega)).1]; exact M.1.2.1
        · rw [(v4 _ _ (by unfold AM1; omega)).1, zpi_s]
        · rw [(va _ _ (by unfold AVm AM1; omega)).1]; exact M.1.2.2.2.1
        · rw [(v4 _ _ (by unfold AM1; omega)).1, (v3 _ _ (by omega)).1, (v2 _ _ (by unfold AM1; omega)).1]; exact n2
    · rw [if_neg cx] at em
      have x1 : CF 13 _ 1 h1 (g_X4_takeEither_c5 h1 13 27 28) := c_eitherN rd13 X1 (x := 27) (y := 28) (by omega) (by omega) (by decide) (by decide)
      exact JL.fl I tp.2.1 (by decide) (by decide) u1 (x1.go (fun h' z => by rw [ec, z]; rfl)) e0 u2 ((m_failb Y2 1).go (fun h' z => by rw [em]; exact z))
  · have x1 := c_onceY I K1 C (i := 1) (by decide) ht (by rw [ho, hd])
    have f1 : g_X12_isTwice hm 139 2 = some (true, hm) := m_twiceY M (i := 1) (by decide) hd
    exact JL.fl I hq (by decide) (by decide) zsm.rf (x1.go (fun h' z => by unfold g_X6_readDead; rw [z]; rfl)) e0 zsm.rf ((m_failb K2 3).go (fun h' z => by unfold g_X12_readsWhich; rw [f1, zbind_s, zb_t, if_neg (by decide)]; exact z))
theorem l_ties (I : TI T) (J : DI D) (K1 : CT T q hc) (C : DCd D q hc) (K2 : MT T q hm) (M : DMd D q hm) (ht : tc T q = 19) : JL T q hc hm (clin hc) (g_X12_readsWhich hm 139 3 11263 13596964) := by
  have hq := K1.2.1
  have hlt := tc0 hq (by omega)
  have tp := tx_prop (T := T) hq
  have e0 : g_X6_readLine hc 13 = g_X6_readTies hc 13 := by rw [rl_k K1, ht]; rfl
  have ho : onc D 2 = don D 2 := rfl
  cases hd : don D 2
  · obtain ⟨h1, m, e1, X1, m1, m2, m3, w1⟩ := c_onceN I K1 C (i := 2) (by decide) ht (by rw [ho, hd])
    obtain ⟨g1, mm, f1, n1, n2, n3, v1⟩ := m_twiceN M (i := 2) (by decide) hd
    have f1 : g_X12_isTwice hm 139 3 = some (false, g1) := f1
    have Y1 : MT T q g1 := K2.same v1 (fun k _ _ => by omega) (fun k => by omega)
    obtain ⟨g2, f2, Y2, v2⟩ := e_next I Y1
    have u1 : zsm AWc hc h1 := w1.mono (fun a k z => by unfold AT1 at z; unfold AWc; omega)
    have u2 : zsm AWm hm g2 := (v1.mono (fun a k z => by unfold AWm; omega)).tr (v2.mono (fun a k z => by unfold AM1 at z; unfold AWm; omega))
    have ec : g_X6_readTies hc 13 = (g_X4_takeEither_c5 h1 13 29 30).bind fun v_3 => if (zb v_3.1) = 0 then (some (false, v_3.2)) else (if (v_3.2.1 13 2) = 1 then (some (true, zpi v_3.2 14 10 1)) else (some (true, zpi v_3.2 14 10 0))) := by
      unfold g_X6_readTies g_X6_readTies_37
      rw [e1, zbind_s, zb_t, if_neg (by decide), rd13.2.1]; rfl
    have s1 := e_isWord I Y2 (i := 17) (by decide) 11263 wl_17
    have s2 := e_isWord I Y2 (i := 18) (by decide) 13596964 wl_18
    have em : g_X12_readsWhich hm 139 3 11263 13596964 = if tc T (tx T q) = 29 ∨ tc T (tx T q) = 30 then ((g_X12_nextToken (zpi g2 141 7 (zb (decide (tc T (tx T q) = 30)))) 139).bind fun v_14 => (g_X12_closes v_14 139).bind fun v_15 => some (v_15.1, v_15.2)) else ((g_X12_fails g2 139 1).bind fun v_8 => some (v_8.1, v_8.2)) := by
      have e62 : ∀ b : Bool, g_X12_readsWhich_62 139 (zb b) (4 + 3) g2 = ((g_X12_nextToken (zpi g2 141 7 (zb b)) 139).bind fun v_14 => (g_X12_closes v_14 139).bind fun v_15 => some (v_15.1, v_15.2)) := by
        intro b
        unfold g_X12_readsWhich_62
        rw [show ((4 : Int32) + 3) = nI 7 from rfl, zin_t (by decide) (by decide), zgu_t, zx_nI (by decide), zr_139_10, zlet_e]
      have e41 : g_X12_readsWhich_41 139 3 13596964 g2 = ((g_X12_nextToken (zpi g2 141 7 (zb (decide (tc T (tx T q) = 30)))) 139).bind fun v_14 => (g_X12_closes v_14 139).bind fun v_15 => some (v_15.1, v_15.2)) := by
        unfold g_X12_readsWhich_41
        rw [s2, zbind_s]
        by_cases c : tc T (tx T q) = 30
        · rw [show (12 + 18) = 30 from rfl, decide_eq_true c, zb_t, if_neg (by decide)]; exact e62 true
        · rw [show (12 + 18) = 30 from rfl, decide_eq_false c, zb_f, if_pos rfl]; exact e62 false
      unfold g_X12_readsWhich
      rw [f1, zbind_s, zb_f, if_pos rfl, f2, zbind_s, s1, zbind_s, s2, zbind_s, e41]
      simp only [zb_eq0, decide_eq_false_iff_not]
      by_cases c1 : tc T (tx T q) = 29
      · rw [if_neg (fun z => z c1), if_pos (Or.inl c1)]
      · rw [if_pos c1]
        by_cases c2 : tc T (tx T q) = 30
        · rw [if_neg (fun z => z c2), if_pos (Or.inr c2)]
        · rw [if_pos c2, if_neg (show ¬ (tc T (tx T q) = 29 ∨ tc T (tx T q) = 30) by omega)]
    by_cases cx : tc T (tx T q) = 29 ∨ tc T (tx T q) = 30
    · rw [if_pos cx] at em
      obtain ⟨h2, e2, X2, k2, w2⟩ := c_eitherY rd13 I X1 (x := 29) (y := 30) cx (by decide) (by decide)
      have e2 : g_X4_takeEither_c5 h1 13 29 30 = some (true, h2) := e2
      generalize hb : decide (tc T (tx T q) = 30) = b at em k2
      have v3 : zsm (fun a k => a = 141 ∧ k = 7) g2 (zpi g2 141 7 (zb b)) := zsm.pi ⟨rfl, rfl⟩
      obtain ⟨g4, f4, Y4, v4⟩ := e_next I (Y2.same v3 (fun k _ _ => by omega) (fun k => by omega))
      have tp2 := tx_prop (T := T) tp.2.1
      have w4 : zsm (fun a k => a = 14 ∧ k = 10) h2 (zpi h2 14 10 (zb b)) := zsm.pi ⟨rfl, rfl⟩
      have wa : zsm (fun a k => AT1 a k ∨ (a = 13 ∧ (k = 5 ∨ k = 2 ∨ k = 3)) ∨ (a = 14 ∧ k = 10)) hc (zpi h2 14 10 (zb b)) := ((w1.mono (fun a k z => by unfold AT1 at z ⊢; omega)).tr (w2.mono (fun a k z => by unfold AV AT1 at z; unfold AT1; omega))).tr (w4.mono (fun a k z => by omega))
      have va : zsm (fun a k => AVm a k ∨ (a = 139 ∧ k = 22) ∨ (a = 141 ∧ k = 7)) hm g4 := (((v1.mono (fun a k z => by omega)).tr (v2.mono (fun a k z => Or.inl (Or.inl z)))).tr (v3.mono (fun a k z => by omega))).tr (v4.mono (fun a k z => Or.inl (Or.inl z)))
      refine JL.cl (D := ((rn (dR D), rk (dR D), ra (dR D), re (dR D), rh (dR D), rl (dR D), b, rb (dR D), rg (dR D), rs (dR D)), dnm D, dgr D, onA 2 D)) (hc1 := zpi h2 14 10 (zb b)) (hm1 := g4) (q1 := tx T (tx T q)) I J (by omega) (wa.mono (fun a k z => by unfold AT1 at z; unfold AWc; omega)) ?_ (X2.vl (by decide) _ _) ?_ (va.mono (fun a k z => by unfold AVm AM1 at z; unfold AWm; omega)) ?_ Y4 ?_
      · rw [e0, ec, e2, zbind_s, zb_t, if_neg (by decide), k2]
        cases b <;> rfl
      · refine C.fld wa (fun a k _ _ => by unfold AT1; omega) (by unfold AT1; omega) ?_ ?_ ?_ ⟨m, m1, ?_, fun i hi => by rw [m3 i hi, onc_set (by decide)]⟩ (by omega)
        · rw [(wa _ _ (by unfold AT1; omega)).1]; exact C.1.2.1
        · rw [(wa _ _ (by unfold AT1; omega)).1]; exact C.1.2.2.1
        · rw [zpi_s]
        · rw [(w4 _ _ (by omega)).1, (w2 _ _ (by unfold AV AT1; omega)).1]; exact m2
      · rw [em, f4, zbind_s]
      · refine M.fld va (fun a k _ _ => by unfold AVm AM1; omega) (by unfold AVm AM1; omega) (by unfold AVm AM1; omega) ?_ ?_ ?_ ⟨mm, n1, ?_, n3⟩ (by omega)
        · rw [(va _ _ (by unfold AVm AM1; omega)).1]; exact M.1.2.1
        · rw [(va _ _ (by unfold AVm AM1; omega)).1]; exact M.1.2.2.1
        · rw [(v4 _ _ (by unfold AM1; omega)).1, zpi_s]
        · rw [(v4 _ _ (by unfold AM1; omega)).1, (v3 _ _ (by omega)).1, (v2 _ _ (by unfold AM1; omega)).1]; exact n2
    · rw [if_neg cx] at em
      have x1 : CF 13 _ 1 h1 (g_X4_takeEither_c5 h1 13 29 30) := c_eitherN rd13 X1 (x := 29) (y := 30) (by omega) (by omega) (by decide) (by decide)
      exact JL.fl I tp.2.1 (by decide) (by decide) u1 (x1.go (fun h' z => by rw [ec, z]; rfl)) e0 u2 ((m_failb Y2 1).go (fun h' z => by rw [em]; exact z))
  · have x1 := c_onceY I K1 C (i := 2) (by decide) ht (by rw [ho, hd])
    have f1 : g_X12_isTwice hm 139 3 = some (true, hm) := m_twiceY M (i := 2) (by decide) hd
    exact JL.fl I hq (by decide) (by decide) zsm.rf (x1.go (fun h' z => by unfold g_X6_readTies; rw [z]; rfl)) e0 zsm.rf ((m_failb K2 3).go (fun h' z => by unfold g_X12_readsWhich; rw [f1, zbind_s, zb_t, if_neg (by decide)]; exact z))
end N5
