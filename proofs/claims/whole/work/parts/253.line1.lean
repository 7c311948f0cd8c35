/-! reading: lines that are told once -/
theorem zbid {α β : Type} (x : Option (α × β)) : (x.bind fun v => some (v.1, v.2)) = x := by cases x <;> rfl
def onA (i0 : Nat) (D : zDr) : Nat → Bool := fun j => if j = i0 then true else don D j
theorem CF.go {t q c : Nat} {h : zH} {x y : Option (Bool × zH)} (H : CF t q c h x) (e : ∀ h', x = some (false, h') → y = some (false, h')) : CF t q c h y := by
  obtain ⟨h', a, k, w⟩ := H
  exact ⟨h', e h' a, k, w⟩
theorem MF.go {q c : Nat} {h : zH} {x y : Option (Bool × zH)} (H : MF q c h x) (e : ∀ h', x = some (false, h') → y = some (false, h')) : MF q c h y := by
  obtain ⟨h', a, k, w⟩ := H
  exact ⟨h', e h' a, k, w⟩
section N4
variable {T : zTp} {q q1 : Nat} {h h' hc hm hc1 hm1 : zH} {A : Nat → Nat → Prop} {D : zDr} {R : zRp} {g : zLaw} {i len : Nat}
theorem rl_k (K : CT T q h) : g_X6_readLine h 13 = if tc T q = 12 then g_X6_readPerson h 13 else if tc T q = 15 then g_X6_readGrudge h 13 else if tc T q = 16 then g_X6_readHeir h 13 else if tc T q = 17 then g_X6_readBar h 13 else if tc T q = 18 then g_X6_readDead h 13 else if tc T q = 19 then g_X6_readTies h 13 else if tc T q = 20 then g_X6_readGrows h 13 else if tc T q = 21 then g_X6_readEases h 13 else g_X4_fail_c5 h 13 1 := by
  have := tc_lt T q
  have e : ∀ n, n < 100 → (nI (tc T q) = nI n) = (tc T q = n) := fun n hn => znI_eq (by omega) (by omega)
  unfold g_X6_readLine
  rw [rd13.1, K.2.2.2.2.1, zlet_e]
  simp only [zbid]
  have e12 : (nI (tc T q) = (12 : Int32)) = (tc T q = 12) := e 12 (by decide)
  have e13 : (nI (tc T q) = (13 : Int32)) = (tc T q = 13) := e 13 (by decide)
  have e14 : (nI (tc T q) = (14 : Int32)) = (tc T q = 14) := e 14 (by decide)
  have e15 : (nI (tc T q) = (15 : Int32)) = (tc T q = 15) := e 15 (by decide)
  have e16 : (nI (tc T q) = (16 : Int32)) = (tc T q = 16) := e 16 (by decide)
  have e17 : (nI (tc T q) = (17 : Int32)) = (tc T q = 17) := e 17 (by decide)
  have e18 : (nI (tc T q) = (18 : Int32)) = (tc T q = 18) := e 18 (by decide)
  have e19 : (nI (tc T q) = (19 : Int32)) = (tc T q = 19) := e 19 (by decide)
  have e20 : (nI (tc T q) = (20 : Int32)) = (tc T q = 20) := e 20 (by decide)
  have e21 : (nI (tc T q) = (21 : Int32)) = (tc T q = 21) := e 21 (by decide)
  simp only [e12, e13, e14, e15, e16, e17, e18, e19, e20, e21]
  by_cases c13 : tc T q = 13
  · simp [c13]
  · by_cases c14 : tc T q = 14
    · simp [c14]
    · simp only [c13, c14, if_false]
theorem DCd.fld {b : Nat} {l y : Bool} {on : Nat → Bool} (C : DCd D q h) (x : zsm A h h') (hA : ∀ a k, 15 ≤ a → a ≤ 22 → ¬ A a k) (h7 : ¬ A 14 7) (e8 : h'.1 14 8 = nI b) (e9 : h'.1 14 9 = zb l) (e10 : h'.1 14 10 = zb y) (hm : ∃ m, m < 32 ∧ h'.1 13 5 = nI m ∧ ∀ i, i < 5 → m.testBit i = onc (dR D, dnm D, dgr D, on) i) (hq : q ≤ q1) : DCd ((rn (dR D), rk (dR D), ra (dR D), re (dR D), rh (dR D), l, y, b, rg (dR D), rs (dR D)), dnm D, dgr D, on) q1 h' := by
  obtain ⟨⟨a1, a2, a3, a4, a5, a6, a7, a8⟩, h2, h3, _, len, l1, l2, l3, l4⟩ := C
  refine ⟨⟨by rw [(x _ _ h7).1]; exact a1, e8, e9, e10, fun p hp => by rw [(x _ _ (hA _ _ (by omega) (by omega))).1]; exact a5 p hp, fun p hp => by rw [(x _ _ (hA _ _ (by omega) (by omega))).1]; exact a6 p hp, fun p hp => by rw [(x _ _ (hA _ _ (by omega) (by omega))).1]; exact a7 p hp, fun p hp => by rw [(x _ _ (hA _ _ (by omega) (by omega))).1]; exact a8 p hp⟩, fun k hk => by rw [(x _ _ (hA _ _ (by omega) (by omega))).1]; exact h2 k hk, fun p hp => by rw [(x _ _ (hA _ _ (by omega) (by omega))).2]; exact h3 p hp, hm, len, by omega, by rw [(x _ _ (hA _ _ (by omega) (by omega))).1]; exact l2, l3.same (x _ _ (hA _ _ (by omega) (by omega))).1 (x _ _ (hA _ _ (by omega) (by omega))).1 (fun k _ => (x _ _ (hA _ _ (by omega) (by omega))).1), l4.same (x _ _ (hA _ _ (by omega) (by omega))).1 (x _ _ (hA _ _ (by omega) (by omega))).1 (fun k _ => (x _ _ (hA _ _ (by omega) (by omega))).1)⟩
theorem DMd.fld {b : Nat} {l y : Bool} {on : Nat → Bool} (M : DMd D q h) (x : zsm A h h') (hA : ∀ a k, 142 ≤ a → a ≤ 151 → ¬ A a k) (h4 : ¬ A 141 4) (h21 : ¬ A 139 21) (e8 : h'.1 141 5 = nI b) (e9 : h'.1 141 6 = zb l) (e10 : h'.1 141 7 = zb y) (hm : ∃ m, m < 16 ∧ h'.1 139 22 = nI m ∧ ∀ i, i < 3 → m.testBit (i + 1) = on i) (hq : q ≤ q1) : DMd ((rn (dR D), rk (dR D), ra (dR D), re (dR D), rh (dR D), l, y, b, rg (dR D), rs (dR D)), dnm D, dgr D, on) q1 h' := by
  obtain ⟨⟨a1, a2, a3, a4, a5, a6, a7, a8⟩, h2, h3, _, len, l1, l2, l3, l4⟩ := M
  refine ⟨⟨by rw [(x _ _ h4).1]; exact a1, e8, e9, e10, fun p hp => by rw [(x _ _ (hA _ _ (by omega) (by omega))).1]; exact a5 p hp, fun p hp => by rw [(x _ _ (hA _ _ (by omega) (by omega))).1]; exact a6 p hp, fun p hp => by rw [(x _ _ (hA _ _ (by omega) (by omega))).1]; exact a7 p hp, fun p hp => by rw [(x _ _ (hA _ _ (by omega) (by omega))).1]; exact a8 p hp⟩, fun k hk => ⟨by rw [(x _ _ (hA _ _ (by omega) (by omega))).1]; exact (h2 k hk).1, by rw [(x _ _ (hA _ _ (by omega) (by omega))).1]; exact (h2 k hk).2⟩, fun p hp => by rw [(x _ _ (hA _ _ (by omega) (by omega))).2]; exact h3 p hp, hm, len, by omega, by rw [(x _ _ h21).1]; exact l2, l3.same (x _ _ (hA _ _ (by omega) (by omega))).1 (x _ _ (hA _ _ (by omega) (by omega))).1 (fun k _ => (x _ _ (hA _ _ (by omega) (by omega))).1), l4.same (x _ _ (hA _ _ (by omega) (by omega))).1 (x _ _ (hA _ _ (by omega) (by omega))).1 (fun k _ => (x _ _ (hA _ _ (by omega) (by omega))).1)⟩
theorem onc_set {i0 : Nat} (h0 : i0 < 3) (i : Nat) : onc (dR D, dnm D, dgr D, onA i0 D) i = if i = i0 then true else onc D i := by
  unfold onc onA
  by_cases c3 : i = 3
  · rw [if_pos c3, if_pos c3, if_neg (by omega)]
  · rw [if_neg c3, if_neg c3]
    by_cases c4 : i = 4
    · rw [if_pos c4, if_pos c4, if_neg (by omega)]
    · rw [if_neg c4, if_neg c4]
/-- the bar -/
theorem l_bar (I : TI T) (J : DI D) (K1 : CT T q hc) (C : DCd D q hc) (K2 : MT T q hm) (M : DMd D q hm) (ht : tc T q = 17) : JL T q hc hm (clin hc) (g_X12_readsBar hm 139) := by
  have hq := K1.2.1
  have hlt := tc0 hq (by omega)
  have tp := tx_prop (T := T) hq
  have e0 : g_X6_readLine hc 13 = g_X6_readBar hc 13 := by rw [rl_k K1, ht]; rfl
  have ho : onc D 0 = don D 0 := rfl
  cases hd : don D 0
  · obtain ⟨h1, m, e1, X1, m1, m2, m3, w1⟩ := c_onceN I K1 C (i := 0) (by decide) ht (by rw [ho, hd])
    obtain ⟨g1, mm, f1, n1, n2, n3, v1⟩ := m_twiceN M (i := 0) (by decide) hd
    have f1 : g_X12_isTwice hm 139 1 = some (false, g1) := f1
    have Y1 : MT T q g1 := K2.same v1 (fun k _ _ => by omega) (fun k => by omega)
    obtain ⟨g2, f2, Y2, v2⟩ := e_next I Y1
    have u1 : zsm AWc hc h1 := w1.mono (fun a k z => by unfold AT1 at z; unfold AWc; omega)
    have u2 : zsm AWm hm g2 := (v1.mono (fun a k z => by unfold AWm; omega)).tr (v2.mono (fun a k z => by unfold AM1 at z; unfold AWm; omega))
    have ec : g_X6_readBar hc 13 = (g_X4_takeNumber_c5 h1 13 1 9).bind fun v_3 => if (zb v_3.1) = 0 then (some (false, v_3.2)) else (zlet (zpi v_3.2 14 8 (v_3.2.1 13 2)) fun h_5 => some (true, h_5)) := by
      unfold g_X6_readBar
      rw [e1, zbind_s, zb_t, if_neg (by decide), rd13.2.1]
    have em : g_X12_readsBar hm 139 = (g_X12_needsNumber g2 139 1 9).bind fun v_4 => if (zb v_4.1) = 0 then (some (false, v_4.2)) else (zlet (zpi v_4.2 141 5 (v_4.2.1 139 35)) fun h_7 => (g_X12_closes h_7 139).bind fun v_8 => some (v_8.1, v_8.2)) := by
      unfold g_X12_readsBar
      rw [f1, zbind_s, zb_f, if_pos rfl, f2, zbind_s, zr_139_10]
      simp only [zil_5 (show 5 < 8 by decide), zgu_t, zxl_5]
    by_cases c3 : tc T (tx T q) = 3
    · by_cases cr : 1 ≤ tn T (tx T q) ∧ tn T (tx T q) ≤ 9
      · obtain ⟨h2, e2, X2, k2, w2⟩ := c_numY rd13 I X1 c3 (lo := 1) (hi := 9) (by decide) (by decide) cr.1 cr.2
        obtain ⟨g3, f3, Y3, k3, v3⟩ := m_numY I Y2 c3 (lo := 1) (hi := 9) (by decide) (by decide) cr.1 cr.2
        have e2 : g_X4_takeNumber_c5 h1 13 1 9 = some (true, h2) := e2
        have f3 : g_X12_needsNumber g2 139 1 9 = some (true, g3) := f3
        have tp2 := tx_prop (T := T) tp.2.1
        have w4 : zsm (fun a k => a = 14 ∧ k = 8) h2 (zpi h2 14 8 (nI (tn T (tx T q)))) := zsm.pi ⟨rfl, rfl⟩
        have v4 : zsm (fun a k => a = 141 ∧ k = 5) g3 (zpi g3 141 5 (nI (tn T (tx T q)))) := zsm.pi ⟨rfl, rfl⟩
        have wa : zsm (fun a k => AT1 a k ∨ (a = 13 ∧ (k = 5 ∨ k = 2 ∨ k = 3)) ∨ (a = 14 ∧ k = 8)) hc (zpi h2 14 8 (nI (tn T (tx T q)))) := ((w1.mono (fun a k z => by unfold AT1 at z ⊢; omega)).tr (w2.mono (fun a k z => by unfold AV AT1 at z; unfold AT1; omega))).tr (w4.mono (fun a k z => by omega))
        have va : zsm (fun a k => AVm a k ∨ (a = 139 ∧ k = 22) ∨ (a = 141 ∧ k = 5)) hm (zpi g3 141 5 (nI (tn T (tx T q)))) := (((v1.mono (fun a k z => by omega)).tr (v2.mono (fun a k z => Or.inl (Or.inl z)))).tr (v3.mono (fun a k z => Or.inl z))).tr (v4.mono (fun a k z => by omega))
        refine JL.cl (D := ((rn (dR D), rk (dR D), ra (dR D), re (dR D), rh (dR D), rl (dR D), ry (dR D), tn T (tx T q), rg (dR D), rs (dR D)), dnm D, dgr D, onA 0 D)) (hc1 := zpi h2 14 8 (nI (tn T (tx T q)))) (hm1 := zpi g3 141 5 (nI (tn T (tx T q)))) (q1 := tx T (tx T q)) I ⟨⟨J.1.1, J.1.2.1, cr.1, cr.2⟩, J.2⟩ (by omega) (wa.mono (fun a k z => by unfold AT1 at z; unfold AWc; omega)) ?_ (X2.vl (by decide) _ _) ?_ (va.mono (fun a k z => by unfold AVm AM1 at z; unfold AWm; omega)) ?_ (Y3.same v4 (fun k _ _ => by omega) (fun k => by omega)) ?_
        · rw [e0, ec, e2, zbind_s, zb_t, if_neg (by decide), k2, zlet_e]
        · refine C.fld wa (fun a k _ _ => by unfold AT1; omega) (by unfold AT1; omega) (by rw [zpi_r, if_pos ⟨rfl, rfl⟩]) (by rw [(wa _ _ (by unfold AT1; omega)).1]; exact C.1.2.2.1) (by rw [(wa _ _ (by unfold AT1; omega)).1]; exact C.1.2.2.2.1) ⟨m, m1, ?_, fun i hi => by rw [m3 i hi, onc_set (by decide)]⟩ (by omega)
          rw [(w4 _ _ (by omega)).1, (w2 _ _ (by unfold AV AT1; omega)).1]; exact m2
        · rw [em, f3, zbind_s, zb_t, if_neg (by decide), k3, zlet_e]
        · refine M.fld va (fun a k _ _ => by unfold AVm AM1; omega) (by unfold AVm AM1; omega) (by unfold AVm AM1; omega) (by rw [zpi_r, if_pos ⟨rfl, rfl⟩]) (by rw [(va _ _ (by unfold AVm AM1; omega)).1]; exact M.1.2.2.1) (by rw [(va _ _ (by unfold AVm AM1; omega)).1]; exact M.1.2.2.2.1) ⟨mm, n1, ?_, n3⟩ (by omega)
          rw [(v4 _ _ (by omega)).1, (v3 _ _ (by unfold AVm AM1; omega)).1, (v2 _ _ (by unfold AM1; omega)).1]; exact n2
      · have x1 : CF 13 _ 4 h1 (g_X4_takeNumber_c5 h1 13 1 9) := c_num4 rd13 I X1 c3 (lo := 1) (hi := 9) (by decide) (by decide) (by omega)
        have x2 : MF _ 4 g2 (g_X12_needsNumber g2 139 1 9) := m_num4 I Y2 c3 (lo := 1) (hi := 9) (by decide) (by decide) (by omega)
        exact JL.fl I tp.2.1 (by decide) (by decide) u1 (x1.go (fun h' z => by rw [ec, z]; rfl)) e0 u2 (x2.go (fun h' z => by rw [em, z]; rfl))
    · have x1 := c_num1 rd13 X1 c3 1 9
      have x2 := m_num1 Y2 c3 1 9
      exact JL.fl I tp.2.1 (by decide) (by decide) u1 (x1.go (fun h' z => by rw [ec, z]; rfl)) e0 u2 (x2.go (fun h' z => by rw [em, z]; rfl))
  · have x1 := c_onceY I K1 C (i := 0) (by decide) ht (by rw [ho, hd])
    have f1 : g_X12_isTwice hm 139 1 = some (true, hm) := m_twiceY M (i := 0) (by decide) hd
    exact JL.fl I hq (by decide) (by decide) zsm.rf (x1.go (fun h' z => by unfold g_X6_readBar; rw [z]; rfl)) e0 zsm.rf ((m_failb K2 3).go (fun h' z => by unfold g_X12_readsBar; rw [f1, zbind_s, zb_t, if_neg (by decide)]; exact z))
end N4
