/-! reading: how it begins -/
def D0 : zDr := ((0, fun _ => 0, fun _ => 0, fun _ => 0, fun _ => none, false, false, 7, none, none), fun _ => [], fun _ => none, fun _ => false)
theorem D0_I : DI D0 := ⟨⟨Nat.zero_le _, fun p hp => absurd hp (Nat.not_lt_zero p), show 1 ≤ 7 by decide, show 7 ≤ 9 by decide⟩, fun p _ => rfl, fun p hp => absurd hp (Nat.not_lt_zero p), fun k g z => by cases z⟩
theorem onc_0 : ∀ i, i < 5 → (0 : Nat).testBit i = onc D0 i := by decide
theorem don_0 : ∀ i, i < 3 → (0 : Nat).testBit (i + 1) = don D0 i := by decide
def AWn : Nat → Nat → Prop := fun a k => AWm a k ∨ (a = 139 ∧ (k = 1 ∨ k = 3))
section N13
variable {T : zTp} {q : Nat} {h h' hc hm hc1 hm1 : zH} {D : zDr}
theorem c_begin (h : zH) : ∃ h', g_X6_begin h 13 = some h' ∧ DCd D0 0 h' ∧ zsm AWc h h' := by
  obtain ⟨h1, e1, k1, w1⟩ := e_fill (h := h) (a := 19) (n := 7) (by decide) (-1)
  obtain ⟨h2, e2, k2, w2⟩ := e_fill (h := h1) (a := 20) (n := 49) (by decide) (-1)
  have w3 : zsm (fun a _ => a = 13 ∨ a = 14 ∨ a = 21) h2 (zpi (zpi (zpi (zpi (zpi (zpi (zpi (zpi (zpi (zpi h2 21 7 0) 21 8 0) 21 9 0) 21 10 0) 21 11 0) 14 7 0) 14 8 7) 14 9 0) 14 10 0) 13 5 0) :=
    (zsm.pi (by omega)).tr ((zsm.pi (by omega)).tr ((zsm.pi (by omega)).tr ((zsm.pi (by omega)).tr ((zsm.pi (by omega)).tr ((zsm.pi (by omega)).tr ((zsm.pi (by omega)).tr ((zsm.pi (by omega)).tr ((zsm.pi (by omega)).tr (zsm.pi (by omega))))))))))
  refine ⟨_, ?_, ?_, ((w1.mono (fun a k z => by unfold AR at z; unfold AWc; omega)).tr (w2.mono (fun a k z => by unfold AR at z; unfold AWc; omega))).tr (w3.mono (fun a k z => by unfold AWc; omega))⟩
  · unfold g_X6_begin g_X5_clear g_X1_clear
    rw [zr_13_1, zr_14_4, zr_14_5, zr_14_6, e1, zbind_s, e2, zbind_s]
    rfl
  · refine ⟨⟨?_, ?_, ?_, ?_, fun p hp => absurd hp (Nat.not_lt_zero p), fun p hp => absurd hp (Nat.not_lt_zero p), fun p hp => absurd hp (Nat.not_lt_zero p), fun p hp => ?_⟩, fun k hk => ?_, fun p hp => absurd hp (Nat.not_lt_zero p), ⟨0, by decide, ?_, onc_0⟩, 0, Nat.le_refl _, ?_, ?_, ?_⟩
    · show _ = nI 0
      simp [zpi_r]; rfl
    · show _ = nI 7
      simp [zpi_r]; rfl
    · show _ = zb false
      simp [zpi_r]; rfl
    · show _ = zb false
      simp [zpi_r]; rfl
    · show _ = (-1 : Int32)
      rw [(w3 19 p (by omega)).1, (w2 19 p (by unfold AR; omega)).1]; exact k1 p hp
    · show _ = (-1 : Int32)
      rw [(w3 20 k (by omega)).1]; exact k2 k hk
    · show _ = nI 0
      simp [zpi_r]; rfl
    · show _ = nI 0
      simp [zpi_r]; rfl
    · show (_ : Int32) = _
      simp [zpi_r]
    · show (_ : Int32) = _
      simp [zpi_r]
theorem m_begin1 (h : zH) : ∃ h', g_X12_readsAll_2 139 zfu 4 h = g_X12_readsAll_33 139 zfu 0 h' ∧ (∀ k, 4 ≤ k → k < 8 → h'.1 141 k = if k = 5 then 7 else 0) ∧ zsm (fun a k => a = 141 ∧ 4 ≤ k) h h' := by
  obtain ⟨h1, m1, e1, ⟨k1, w1⟩⟩ := zloopH (L := fun f i (_ : Unit) h => g_X12_readsAll_2 139 f i h) (N := 8) (f := fun _ s => s) (fun i _ h1 => (∀ k, 4 ≤ k → k < i → h1.1 141 k = if k = 5 then 7 else 0) ∧ (4 ≤ i ∧ zsm (fun a k => a = 141 ∧ 4 ≤ k) h h1))
    (by
      intro f i s h1 hi ⟨k1, hi4, w1⟩
      show ∃ h', g_X12_readsAll_2 139 (f + 1) (nI i) h1 = g_X12_readsAll_2 139 f (nI (i + 1)) h' ∧ _
      have e : g_X12_readsAll_2 139 (f + 1) (nI i) h1 = g_X12_readsAll_2 139 f (nI (i + 1)) (zpi h1 141 i (if i = 5 then 7 else 0)) := by
        rw [g_X12_readsAll_2, if_neg (by rw [zleL_8 (by omega)]; omega)]
        by_cases c : i = 5
        · rw [if_pos (by rw [zeq_5 (by omega)]; exact c), if_pos c]
          unfold g_X12_readsAll_24
          rw [zin_t (by omega) (by omega), zgu_t, zx_nI (by omega), zr_139_10, zlet_e, nI_1]
        · rw [if_neg (by rw [zeq_5 (by omega)]; exact c), if_neg c]
          unfold g_X12_readsAll_24
          rw [zin_t (by omega) (by omega), zgu_t, zx_nI (by omega), zr_139_10, zlet_e, nI_1]
      refine ⟨_, e, fun k h4 hk => ?_, by omega, w1.tr (zsm.pi ⟨rfl, hi4⟩)⟩
      rw [zpi_r]
      by_cases c : k = i
      · rw [if_pos ⟨rfl, c⟩, c]
      · rw [if_neg (by omega)]; exact k1 k h4 (by omega))
    4 4 () zfu h (by omega) (by decide) ⟨fun k h4 hk => by omega, by omega, zsm.rf⟩
  refine ⟨h1, ?_, k1, w1.2⟩
  refine Eq.trans e1 ?_
  show g_X12_readsAll_2 139 (m1 + 1) (nI 8) h1 = _
  rw [g_X12_readsAll_2, if_pos (by decide)]
theorem m_begin2 (h : zH) : ∃ h', g_X12_readsAll_33 139 zfu 0 h = g_X12_readsAll_64 139 zfu 2 h' ∧ (∀ k, k < 49 → h'.1 148 k = 0 ∧ h'.1 147 (49 + k) = 0) ∧ zsm (fun a k => a = 148 ∨ (a = 147 ∧ 49 ≤ k)) h h' := by
  have ev : vp_nar .boolean 0 = 0 := vnar false
  obtain ⟨h1, m1, e1, ⟨k1, w1⟩⟩ := zloopH (L := fun f i (_ : Unit) h => g_X12_readsAll_33 139 f i h) (N := 49) (f := fun _ s => s) (fun i _ h1 => (∀ k, k < i → h1.1 148 k = 0 ∧ h1.1 147 (49 + k) = 0) ∧ zsm (fun a k => a = 148 ∨ (a = 147 ∧ 49 ≤ k)) h h1)
    (by
      intro f i s h1 hi ⟨k1, w1⟩
      show ∃ h', g_X12_readsAll_33 139 (f + 1) (nI i) h1 = g_X12_readsAll_33 139 f (nI (i + 1)) h' ∧ _
      have e : g_X12_readsAll_33 139 (f + 1) (nI i) h1 = g_X12_readsAll_33 139 f (nI (i + 1)) (zpi (zpi h1 148 i 0) 147 (49 + i) 0) := by
        rw [g_X12_readsAll_33, if_neg (by rw [zleL_49 (by omega)]; omega), zin_t hi (by omega), zgu_t, zx_nI (by omega), zr_139_17, ev, zlet_e, zaL_49, zin_t (show 49 + i < 98 by omega) (by omega), zgu_t, zx_nI (by omega), zr_139_16, zlet_e, nI_1]
      refine ⟨_, e, fun k hk => ?_, w1.tr ((zsm.pi (Or.inl rfl)).tr (zsm.pi (Or.inr ⟨rfl, by omega⟩)))⟩
      rw [zpi_r, zpi_r, zpi_r, zpi_r]
      by_cases c : k = i
      · rw [if_neg (by omega), if_pos ⟨rfl, c⟩, if_pos ⟨rfl, by omega⟩]; exact ⟨rfl, rfl⟩
      · rw [if_neg (by omega), if_neg (by omega), if_neg (by omega), if_neg (by omega)]; exact k1 k (by omega))
    49 0 () zfu h (by omega) (by decide) ⟨fun k hk => by omega, zsm.rf⟩
  refine ⟨h1, ?_, k1, w1⟩
  refine Eq.trans e1 ?_
  show g_X12_readsAll_33 139 (m1 + 1) (nI 49) h1 = _
  rw [g_X12_readsAll_33, if_pos (by decide)]
theorem m_begin3 (h : zH) : ∃ h', g_X12_readsAll_64 139 zfu 2 h = (g_X12_begins (zpi (zpi h' 139 22 0) 139 21 1000) 139).bind (fun v_13 => g_X12_readsAll_109 139 zfu v_13) ∧ (∀ k, 2 ≤ k → k < 4 → h'.1 149 k = 1000 ∧ h'.1 150 k = 1000) ∧ zsm (fun a k => (a = 149 ∨ a = 150) ∧ 2 ≤ k) h h' := by
  obtain ⟨h1, m1, e1, ⟨k1, w1⟩⟩ := zloopH (L := fun f i (_ : Unit) h => g_X12_readsAll_64 139 f i h) (N := 4) (f := fun _ s => s) (fun i _ h1 => (∀ k, 2 ≤ k → k < i → h1.1 149 k = 1000 ∧ h1.1 150 k = 1000) ∧ (2 ≤ i ∧ zsm (fun a k => (a = 149 ∨ a = 150) ∧ 2 ≤ k) h h1))
    (by
      intro f i s h1 hi ⟨k1, hi2, w1⟩
      show ∃ h', g_X12_readsAll_64 139 (f + 1) (nI i) h1 = g_X12_readsAll_64 139 f (nI (i + 1)) h' ∧ _
      have e : g_X12_readsAll_64 139 (f + 1) (nI i) h1 = g_X12_readsAll_64 139 f (nI (i + 1)) (zpi (zpi h1 149 i 1000) 150 i 1000) := by
        rw [g_X12_readsAll_64, if_neg (by rw [zleL_4 (by omega)]; omega), zin_t hi (by omega), zgu_t, zx_nI (by omega), zr_139_18, zlet_e, zgu_t, zr_139_19, zlet_e, nI_1]
      refine ⟨_, e, fun k h2 hk => ?_, by omega, w1.tr ((zsm.pi ⟨Or.inl rfl, hi2⟩).tr (zsm.pi ⟨Or.inr rfl, hi2⟩))⟩
      rw [zpi_r, zpi_r, zpi_r, zpi_r]
      by_cases c : k = i
      · rw [if_neg (by omega), if_pos ⟨rfl, c⟩, if_pos ⟨rfl, c⟩]; exact ⟨rfl, rfl⟩
      · rw [if_neg (by omega), if_neg (by omega), if_neg (by omega), if_neg (by omega)]; exact k1 k h2 (by omega))
    2 2 () zfu h (by omega) (by decide) ⟨fun k h2 hk => by omega, by omega, zsm.rf⟩
  refine ⟨h1, ?_, k1, w1.2⟩
  refine Eq.trans e1 ?_
  show g_X12_readsAll_64 139 (m1 + 1) (nI 4) h1 = _
  rw [g_X12_readsAll_64, if_pos (by decide), zlet_e, zlet_e]
theorem m_begin (h : zH) : ∃ h', g_X12_readsAll h 139 = (g_X12_begins h' 139).bind (fun v_13 => g_X12_readsAll_109 139 zfu v_13) ∧ DMd D0 0 h' ∧ zsm AWm h h' := by
  obtain ⟨h1, e1, k1, w1⟩ := m_begin1 h
  obtain ⟨h2, e2, k2, w2⟩ := m_begin2 h1
  obtain ⟨h3, e3, k3, w3⟩ := m_begin3 h2
  have w4 : zsm (fun a k => a = 139 ∧ (k = 22 ∨ k = 21)) h3 (zpi (zpi h3 139 22 0) 139 21 1000) := (zsm.pi (by omega)).tr (zsm.pi (by omega))
  refine ⟨_, (show g_X12_readsAll h 139 = _ by unfold g_X12_readsAll; exact e1.trans (e2.trans e3)), ?_, (((w1.mono (fun a k z => by unfold AWm; omega)).tr (w2.mono (fun a k z => by unfold AWm; omega))).tr (w3.mono (fun a k z => by unfold AWm; omega))).tr (w4.mono (fun a k z => by unfold AWm; omega))⟩
  have c : ∀ k, 4 ≤ k → k < 8 → (zpi (zpi h3 139 22 0) 139 21 1000).1 141 k = if k = 5 then 7 else 0 := fun k a b => by
    rw [(w4 _ _ (by omega)).1, (w3 _ _ (by omega)).1, (w2 _ _ (by omega)).1]; exact k1 k a b
  have g : ∀ k, 2 ≤ k → k < 4 → (zpi (zpi h3 139 22 0) 139 21 1000).1 149 k = 1000 ∧ (zpi (zpi h3 139 22 0) 139 21 1000).1 150 k = 1000 := fun k a b => by
    rw [(w4 _ _ (by omega)).1, (w4 _ _ (by omega)).1]; exact k3 k a b
  refine ⟨⟨c 4 (by decide) (by decide), c 5 (by decide) (by decide), c 6 (by decide) (by decide), c 7 (by decide) (by decide), fun p hp => absurd hp (Nat.not_lt_zero p), fun p hp => absurd hp (Nat.not_lt_zero p), fun p hp => absurd hp (Nat.not_lt_zero p), fun p hp => absurd hp (Nat.not_lt_zero p)⟩, fun k hk => ?_, fun p hp => absurd hp (Nat.not_lt_zero p), ⟨0, by decide, ?_, don_0⟩, 0, Nat.le_refl _, ?_, g 2 (by decide) (by decide), g 3 (by decide) (by decide)⟩
  · have := k2 k hk
    exact ⟨by rw [(w4 _ _ (by omega)).1, (w3 _ _ (by omega)).1]; exact this.1, by rw [(w4 _ _ (by omega)).1, (w3 _ _ (by omega)).1]; exact this.2⟩
  · show _ = nI 0
    simp [zpi_r]; rfl
  · show _ = nI 1000
    simp [zpi_r]; rfl
theorem m_begins (I : TI T) (e1 : h.1 139 1 = nI T.1) (e2 : ∀ k, k < T.1 → h.1 140 k = nI (T.2 k)) : ∃ h', g_X12_begins h 139 = some h' ∧ MT T (tq T 0) h' ∧ h'.1 139 1 = 0 ∧ zsm (fun a k => a = 139 ∧ (k = 1 ∨ (3 ≤ k ∧ k ≤ 8))) h h' := by
  have w : zsm (fun a k => a = 139 ∧ (k = 1 ∨ (3 ≤ k ∧ k ≤ 8))) h (zpi (zpi (zpi h 139 3 (nI T.1)) 139 1 0) 139 4 0) := (zsm.pi (by omega)).tr ((zsm.pi (by omega)).tr (zsm.pi (by omega)))
  obtain ⟨h3, e3, K3, w3⟩ := e_nextTokenP (h := zpi (zpi (zpi h 139 3 (nI T.1)) 139 1 0) 139 4 0) (p := 0) I ⟨by simp [zpi_r], fun k hk => by rw [(w _ _ (by omega)).1]; exact e2 k hk⟩ (Nat.zero_le _) (by simp [zpi_r]; rfl)
  refine ⟨h3, ?_, K3, ?_, w.tr (w3.mono (fun a k z => by unfold AM1 at z; omega))⟩
  · unfold g_X12_begins
    rw [e1, zlet_e, zlet_e, zlet_e, e3, zbind_s]
  · rw [(w3 _ _ (by unfold AM1; omega)).1]
    simp [zpi_r]
theorem c_first (I : TI T) (K : TC T h) : ∃ h', g_X8_lookAtFirst h 1 = some h' ∧ CT T (tq T 0) h' ∧ zsm AT1 h h' := by
  have w : zsm AT1 h (zpi h 1 5 0) := zsm.pi (by unfold AT1; omega)
  obtain ⟨h3, e3, K3, w3⟩ := e_lookAtNext (h := zpi h 1 5 0) (p := 0) I (K.same w (by unfold AT1; omega) (fun k => by unfold AT1; omega)) (Nat.zero_le _) (zpi_s _ _ _ _)
  refine ⟨h3, ?_, K3, w.tr w3⟩
  unfold g_X8_lookAtFirst
  rw [zlet_e, e3, zbind_s]
/-- a republic is read -/
theorem r_all (I : TI T) (K : TC T hc) (e1 : hm.1 139 1 = nI T.1) (e2 : ∀ k, k < T.1 → hm.1 140 k = nI (T.2 k)) : (∃ f hc' hm', 0 < f ∧ f < 20000 ∧ g_X4_readTape_c5 hc 13 = some (nI f, hc') ∧ zsm AWt hc hc' ∧ hc'.1 1 1 = 0 ∧ g_X12_readsAll hm 139 = some (false, hm') ∧ hm'.1 139 9 = nI f ∧ zsm AWn hm hm' ∧ hm'.1 139 1 = 0) ∨
    (∃ D q hc' hm', q ≤ 1000 ∧ DI D ∧ g_X4_readTape_c5 hc 13 = some (0, hc') ∧ DCd D q hc' ∧ zsm AWt hc hc' ∧ hc'.1 1 1 = 0 ∧ g_X12_readsAll hm 139 = some (true, hm') ∧ DMd D q hm' ∧ zsm AWn hm hm' ∧ hm'.1 139 1 = 0) := by
  have l := I.1
  obtain ⟨h1, a1, C1, w1⟩ := c_begin hc
  have w2 : zsm (fun a k => a = 13 ∧ k = 3) h1 (zpi h1 13 3 0) := zsm.pi ⟨rfl, rfl⟩
  have K1 : TC T (zpi h1 13 3 0) := (K.same w1 (by unfold AWc; omega) (fun k => by unfold AWc; omega)).same w2 (by omega) (fun k => by omega)
  obtain ⟨h3, a3, K3, w3⟩ := c_first I K1
  have C3 : DCd D0 (tq T 0) h3 := (C1.same w2 (by omega) (fun a k _ _ => by omega) (Nat.le_refl _)).same w3 (by unfold AT1; omega) (fun a k _ _ => by unfold AT1; omega) (Nat.zero_le _)
  have z3 : h3.1 13 3 = 0 := by rw [(w3 _ _ (by unfold AT1; omega)).1, zpi_s]
  have u3 : zsm AWt hc h3 := (w1.mono (fun a k z => Or.inl z)).tr ((w2.mono (fun a k z => Or.inl (by unfold AWc; omega))).tr (w3.mono (fun a k z => Or.inl (by unfold AT1 at z; unfold AWc; omega))))
  have ea : g_X4_readTape_c5 hc 13 = g_X4_readTape_c5_20 13 zfu 1 (nI 0) h3 := by
    unfold g_X4_readTape_c5
    rw [a1, zbind_s, zlet_e, rd13.1, a3, zbind_s]; rfl
  obtain ⟨g1, b1, M1, v1⟩ := m_begin hm
  obtain ⟨g2, b2, Y2, y2, v2⟩ := m_begins (h := g1) I (by rw [(v1 _ _ (by unfold AWm; omega)).1]; exact e1) (fun k hk => by rw [(v1 _ _ (by unfold AWm; omega)).1]; exact e2 k hk)
  have M2 : DMd D0 (tq T 0) g2 := M1.same v2 (by omega) (by omega) (fun a k _ _ => by omega) (Nat.zero_le _)
  have t2 : zsm AWn hm g2 := (v1.mono (B := AWn) (fun a k z => Or.inl z)).tr (v2.mono (fun a k z => by unfold AWn AWm; omega))
  have eb : g_X12_readsAll hm 139 = g_X12_readsAll_109 139 zfu g2 := by rw [b1, b2, zbind_s]
  rw [ea, eb]
  rcases l_loop I 1001 (tq T 0) D0 h3 g2 zfu zfu 0 (by omega) (by show 1001 ≤ 4000; omega) (by show 1001 ≤ 4000; omega) (Nat.zero_le _) D0_I K3 C3 Y2 M2 z3 with ⟨f, hc', hm', p1, p2, p3, p4, p5, p6, p7, p8⟩ | ⟨D, q, hc', hm', p1, p2, p3, p4, p5, p6, p7, p8, p9⟩
  · exact Or.inl ⟨f, hc', hm', p1, p2, p3, u3.tr p4, p5, p6, p7, t2.tr (p8.mono (fun a k z => Or.inl z)), by rw [(p8 _ _ (by unfold AWm; omega)).1]; exact y2⟩
  · exact Or.inr ⟨D, q, hc', hm', p1, p2, p3, p4, u3.tr p5, p6, p7, p8, t2.tr (p9.mono (fun a k z => Or.inl z)), by rw [(p9 _ _ (by unfold AWm; omega)).1]; exact y2⟩
end N13
