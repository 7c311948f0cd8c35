/-! a republic that was read is laid: the reference -/
section N15
variable {T : zTp} {q : Nat} {h h' hc hm hc1 hm1 : zH} {D : zDr} {g : zLaw} {i len : Nat}
theorem e_shifts {a n0 n : Nat} (hn : n + n ≤ n0) (h0 : n0 < 3000) : ∃ h', g_X12_shifts h a n0 (nI n) = some h' ∧ (∀ k, k < n → h'.1 a k = h.1 a (n + k)) ∧ zsm (fun x k => x = a ∧ k < n) h h' := by
  obtain ⟨h1, m1, e1, ⟨k1, w1⟩⟩ := zloopH (L := fun f i (_ : Unit) h => g_X12_shifts_2 a n0 f (nI n) i h) (N := n) (f := fun _ s => s) (fun i _ h1 => (∀ k, k < i → h1.1 a k = h.1 a (n + k)) ∧ zsm (fun x k => x = a ∧ k < n) h h1)
    (by
      intro f i s h1 hi ⟨k1, w1⟩
      show ∃ h', g_X12_shifts_2 a n0 (f + 1) (nI n) (nI i) h1 = g_X12_shifts_2 a n0 f (nI n) (nI (i + 1)) h' ∧ _
      have e : g_X12_shifts_2 a n0 (f + 1) (nI n) (nI i) h1 = g_X12_shifts_2 a n0 f (nI n) (nI (i + 1)) (zpi h1 a i (h.1 a (n + i))) := by
        rw [g_X12_shifts_2, if_neg (by rw [znI_le (by omega) (by omega)]; omega), nI_add, zin_t (show n + i < n0 by omega) (by omega), zgu_t, zin_t (show i < n0 by omega) (by omega), zgu_t, zx_nI (show i < 2147483648 by omega), zx_nI (show n + i < 2147483648 by omega), zlet_e, nI_1, (w1 a (n + i) (by omega)).1]
      refine ⟨_, e, fun k hk => ?_, w1.tr (zsm.pi ⟨rfl, hi⟩)⟩
      rw [zpi_r]
      by_cases c : k = i
      · rw [if_pos ⟨rfl, c⟩, c]
      · rw [if_neg (by omega)]; exact k1 k (by omega))
    n 0 () zfu h (by omega) (by show n < 4000; omega) ⟨fun k hk => by omega, zsm.rf⟩
  refine ⟨h1, ?_, k1, w1⟩
  unfold g_X12_shifts
  refine Eq.trans e1 ?_
  show g_X12_shifts_2 a n0 (m1 + 1) (nI n) (nI n) h1 = _
  rw [g_X12_shifts_2, if_pos (Int32.le_refl _)]
theorem m_lay94 (h : zH) : ∃ h', g_X12_lays_94 139 zfu 0 h = some h' ∧ (∀ k, k < 2 → h'.1 149 k = h.1 149 (2 + k) - 1000 ∧ h'.1 150 k = h.1 150 (2 + k) - 1000) ∧ zsm (fun x k => (x = 149 ∨ x = 150) ∧ k < 2) h h' := by
  obtain ⟨h1, m1, e1, ⟨k1, w1⟩⟩ := zloopH (L := fun f i (_ : Unit) h => g_X12_lays_94 139 f i h) (N := 2) (f := fun _ s => s) (fun i _ h1 => (∀ k, k < i → h1.1 149 k = h.1 149 (2 + k) - 1000 ∧ h1.1 150 k = h.1 150 (2 + k) - 1000) ∧ zsm (fun x k => (x = 149 ∨ x = 150) ∧ k < 2) h h1)
    (by
      intro f i s h1 hi ⟨k1, w1⟩
      show ∃ h', g_X12_lays_94 139 (f + 1) (nI i) h1 = g_X12_lays_94 139 f (nI (i + 1)) h' ∧ _
      have w2 : zsm (fun x k => x = 149 ∧ k < 2) h1 (zpi h1 149 i (h.1 149 (2 + i) - 1000)) := zsm.pi ⟨rfl, hi⟩
      have e : g_X12_lays_94 139 (f + 1) (nI i) h1 = g_X12_lays_94 139 f (nI (i + 1)) (zpi (zpi h1 149 i (h.1 149 (2 + i) - 1000)) 150 i (h.1 150 (2 + i) - 1000)) := by
        rw [g_X12_lays_94, if_neg (by rw [zleL_2 (by omega)]; omega), zaL_2, zin_t (show 2 + i < 4 by omega) (by omega), zgu_t, zin_t (show i < 4 by omega) (by omega), zgu_t, zx_nI (show i < 2147483648 by omega), zx_nI (show 2 + i < 2147483648 by omega), zr_139_18, zr_139_19, (w1 149 (2 + i) (by omega)).1, zlet_e, zgu_t, zgu_t, (w2 150 (2 + i) (by omega)).1, (w1 150 (2 + i) (by omega)).1, zlet_e, nI_1]
      refine ⟨_, e, fun k hk => ?_, w1.tr ((zsm.pi ⟨Or.inl rfl, hi⟩).tr (zsm.pi ⟨Or.inr rfl, hi⟩))⟩
      rw [zpi_r, zpi_r, zpi_r, zpi_r]
      by_cases c : k = i
      · rw [if_neg (by omega), if_pos ⟨rfl, c⟩, if_pos ⟨rfl, c⟩, c]; exact ⟨rfl, rfl⟩
      · rw [if_neg (by omega), if_neg (by omega), if_neg (by omega), if_neg (by omega)]; exact k1 k (by omega))
    2 0 () zfu h (by omega) (by decide) ⟨fun k hk => by omega, zsm.rf⟩
  refine ⟨h1, ?_, k1, w1⟩
  refine Eq.trans e1 ?_
  show g_X12_lays_94 139 (m1 + 1) (nI 2) h1 = _
  rw [g_X12_lays_94, if_pos (by decide)]
theorem m_lay10 (h : zH) : ∃ h', g_X12_lays_10 139 zfu 0 h = ((g_X12_shifts h' 143 14 7).bind fun v_3 => (g_X12_shifts v_3 144 14 7).bind fun v_4 => (g_X12_shifts v_4 145 14 7).bind fun v_5 => (g_X12_shifts v_5 146 14 7).bind fun v_6 => (g_X12_shifts v_6 147 98 49).bind fun v_7 => (g_X12_shifts v_7 151 2000 1000).bind fun v_8 => g_X12_lays_94 139 zfu 0 v_8) ∧ (∀ k, k < 7 → h'.2 142 k = h.2 142 (7 + k)) ∧ zsm (fun x k => x = 142 ∧ k < 7) h h' := by
  obtain ⟨h1, m1, e1, ⟨k1, w1⟩⟩ := zloopH (L := fun f i (_ : Unit) h => g_X12_lays_10 139 f i h) (N := 7) (f := fun _ s => s) (fun i _ h1 => (∀ k, k < i → h1.2 142 k = h.2 142 (7 + k)) ∧ zsm (fun x k => x = 142 ∧ k < 7) h h1)
    (by
      intro f i s h1 hi ⟨k1, w1⟩
      show ∃ h', g_X12_lays_10 139 (f + 1) (nI i) h1 = g_X12_lays_10 139 f (nI (i + 1)) h' ∧ _
      have e : g_X12_lays_10 139 (f + 1) (nI i) h1 = g_X12_lays_10 139 f (nI (i + 1)) (zpl h1 142 i (h.2 142 (7 + i))) := by
        rw [g_X12_lays_10, if_neg (by rw [zleL_7 (by omega)]; omega), zaL_7, zin_t (show 7 + i < 14 by omega) (by omega), zgu_t, zin_t (show i < 14 by omega) (by omega), zgu_t, zx_nI (show i < 2147483648 by omega), zx_nI (show 7 + i < 2147483648 by omega), zr_139_11, (w1 142 (7 + i) (by omega)).2, zlet_e, nI_1]
      refine ⟨_, e, fun k hk => ?_, w1.tr (zsm.pl ⟨rfl, hi⟩)⟩
      rw [zpl_r]
      by_cases c : k = i
      · rw [if_pos ⟨rfl, c⟩, c]
      · rw [if_neg (by omega)]; exact k1 k (by omega))
    7 0 () zfu h (by omega) (by decide) ⟨fun k hk => by omega, zsm.rf⟩
  refine ⟨h1, ?_, k1, w1⟩
  refine Eq.trans e1 ?_
  show g_X12_lays_10 139 (m1 + 1) (nI 7) h1 = _
  rw [g_X12_lays_10, if_pos (by decide), zr_139_12, zr_139_13, zr_139_14, zr_139_15, zr_139_16, zr_139_20]
theorem m_lays (h : zH) : ∃ h', g_X12_lays h 139 = some h' ∧ (∀ k, k < 4 → h'.1 141 k = h.1 141 (4 + k)) ∧ (∀ p, p < 7 → h'.2 142 p = h.2 142 (7 + p)) ∧ (∀ p, p < 7 → h'.1 143 p = h.1 143 (7 + p)) ∧ (∀ p, p < 7 → h'.1 144 p = h.1 144 (7 + p)) ∧ (∀ p, p < 7 → h'.1 145 p = h.1 145 (7 + p)) ∧ (∀ p, p < 7 → h'.1 146 p = h.1 146 (7 + p)) ∧ (∀ k, k < 49 → h'.1 147 k = h.1 147 (49 + k)) ∧ (∀ k, k < 1000 → h'.1 151 k = h.1 151 (1000 + k)) ∧ (∀ k, k < 2 → h'.1 149 k = h.1 149 (2 + k) - 1000 ∧ h'.1 150 k = h.1 150 (2 + k) - 1000) ∧ zsm (fun a _ => 141 ≤ a ∧ a ≤ 151) h h' := by
  obtain ⟨h1, e1, k1, w1⟩ := e_shifts (h := h) (a := 141) (n0 := 8) (n := 4) (by decide) (by decide)
  obtain ⟨h2, e2, k2, w2⟩ := m_lay10 h1
  obtain ⟨h3, e3, k3, w3⟩ := e_shifts (h := h2) (a := 143) (n0 := 14) (n := 7) (by decide) (by decide)
  obtain ⟨h4, e4, k4, w4⟩ := e_shifts (h := h3) (a := 144) (n0 := 14) (n := 7) (by decide) (by decide)
  obtain ⟨h5, e5, k5, w5⟩ := e_shifts (h := h4) (a := 145) (n0 := 14) (n := 7) (by decide) (by decide)
  obtain ⟨h6, e6, k6, w6⟩ := e_shifts (h := h5) (a := 146) (n0 := 14) (n := 7) (by decide) (by decide)
  obtain ⟨h7, e7, k7, w7⟩ := e_shifts (h := h6) (a := 147) (n0 := 98) (n := 49) (by decide) (by decide)
  obtain ⟨h8, e8, k8, w8⟩ := e_shifts (h := h7) (a := 151) (n0 := 2000) (n := 1000) (by decide) (by decide)
  obtain ⟨h9, e9, k9, w9⟩ := m_lay94 h8
  have e1 : g_X12_shifts h 141 8 4 = some h1 := e1
  have e3 : g_X12_shifts h2 143 14 7 = some h3 := e3
  have e4 : g_X12_shifts h3 144 14 7 = some h4 := e4
  have e5 : g_X12_shifts h4 145 14 7 = some h5 := e5
  have e6 : g_X12_shifts h5 146 14 7 = some h6 := e6
  have e7 : g_X12_shifts h6 147 98 49 = some h7 := e7
  have e8 : g_X12_shifts h7 151 2000 1000 = some h8 := e8
  refine ⟨h9, ?_, fun k hk => ?_, fun p hp => ?_, fun p hp => ?_, fun p hp => ?_, fun p hp => ?_, fun p hp => ?_, fun k hk => ?_, fun k hk => ?_, fun k hk => ?_, (w1.mono (fun a k z => by omega)).tr ((w2.mono (fun a k z => by omega)).tr ((w3.mono (fun a k z => by omega)).tr ((w4.mono (fun a k z => by omega)).tr ((w5.mono (fun a k z => by omega)).tr ((w6.mono (fun a k z => by omega)).tr ((w7.mono (fun a k z => by omega)).tr ((w8.mono (fun a k z => by omega)).tr (w9.mono (fun a k z => by omega)))))))))⟩
  · unfold g_X12_lays
    rw [zr_139_10, e1, zbind_s, e2, e3, zbind_s, e4, zbind_s, e5, zbind_s, e6, zbind_s, e7, zbind_s, e8, zbind_s, e9]
  · rw [(w9 _ _ (by omega)).1, (w8 _ _ (by omega)).1, (w7 _ _ (by omega)).1, (w6 _ _ (by omega)).1, (w5 _ _ (by omega)).1, (w4 _ _ (by omega)).1, (w3 _ _ (by omega)).1, (w2 _ _ (by omega)).1]; exact k1 k hk
  · rw [(w9 _ _ (by omega)).2, (w8 _ _ (by omega)).2, (w7 _ _ (by omega)).2, (w6 _ _ (by omega)).2, (w5 _ _ (by omega)).2, (w4 _ _ (by omega)).2, (w3 _ _ (by omega)).2, k2 p hp, (w1 _ _ (by omega)).2]
  · rw [(w9 _ _ (by omega)).1, (w8 _ _ (by omega)).1, (w7 _ _ (by omega)).1, (w6 _ _ (by omega)).1, (w5 _ _ (by omega)).1, (w4 _ _ (by omega)).1, k3 p hp, (w2 _ _ (by omega)).1, (w1 _ _ (by omega)).1]
  · rw [(w9 _ _ (by omega)).1, (w8 _ _ (by omega)).1, (w7 _ _ (by omega)).1, (w6 _ _ (by omega)).1, (w5 _ _ (by omega)).1, k4 p hp, (w3 _ _ (by omega)).1, (w2 _ _ (by omega)).1, (w1 _ _ (by omega)).1]
  · rw [(w9 _ _ (by omega)).1, (w8 _ _ (by omega)).1, (w7 _ _ (by omega)).1, (w6 _ _ (by omega)).1, k5 p hp, (w4 _ _ (by omega)).1, (w3 _ _ (by omega)).1, (w2 _ _ (by omega)).1, (w1 _ _ (by omega)).1]
  · rw [(w9 _ _ (by omega)).1, (w8 _ _ (by omega)).1, (w7 _ _ (by omega)).1, k6 p hp, (w5 _ _ (by omega)).1, (w4 _ _ (by omega)).1, (w3 _ _ (by omega)).1, (w2 _ _ (by omega)).1, (w1 _ _ (by omega)).1]
  · rw [(w9 _ _ (by omega)).1, (w8 _ _ (by omega)).1, k7 k hk, (w6 _ _ (by omega)).1, (w5 _ _ (by omega)).1, (w4 _ _ (by omega)).1, (w3 _ _ (by omega)).1, (w2 _ _ (by omega)).1, (w1 _ _ (by omega)).1]
  · rw [(w9 _ _ (by omega)).1, k8 k hk, (w7 _ _ (by omega)).1, (w6 _ _ (by omega)).1, (w5 _ _ (by omega)).1, (w4 _ _ (by omega)).1, (w3 _ _ (by omega)).1, (w2 _ _ (by omega)).1, (w1 _ _ (by omega)).1]
  · have o : ∀ a, a = 149 ∨ a = 150 → h8.1 a (2 + k) = h.1 a (2 + k) := fun a ha => by rw [(w8 _ _ (by omega)).1, (w7 _ _ (by omega)).1, (w6 _ _ (by omega)).1, (w5 _ _ (by omega)).1, (w4 _ _ (by omega)).1, (w3 _ _ (by omega)).1, (w2 _ _ (by omega)).1, (w1 _ _ (by omega)).1]
    rw [← o 149 (Or.inl rfl), ← o 150 (Or.inr rfl)]; exact k9 k hk
theorem lm1 {j : Nat} (H : DLm g h (2 + j) len) (hj : j < 2) (hl : len ≤ 1000) (e1 : h'.1 149 j = h.1 149 (2 + j) - 1000) (e2 : h'.1 150 j = h.1 150 (2 + j) - 1000) (e3 : ∀ k, k < 1000 → h'.1 151 k = h.1 151 (1000 + k)) : LMl g h' j := by
  cases g with
  | none =>
    show h'.1 150 j = h'.1 149 j
    rw [e1, e2, H.1, H.2]
  | some f =>
    obtain ⟨b, rc, fr, v, h1, h2, h3, h4, h5, h6, h7⟩ := H
    have hp := h2.ne h3
    have s1 : nI (1000 + b) - 1000 = nI b := by
      have := nI_sb (a := 1000 + b) (b := 1000) (by omega)
      rw [show 1000 + b - 1000 = b by omega] at this
      exact this
    have s2 : nI (1000 + b + rc.length) - 1000 = nI (b + rc.length) := by
      have := nI_sb (a := 1000 + b + rc.length) (b := 1000) (by omega)
      rw [show 1000 + b + rc.length - 1000 = b + rc.length by omega] at this
      exact this
    have f1 : h'.1 149 j = nI b := by rw [e1, h5, s1]
    have f2 : h'.1 150 j = nI (b + rc.length) := by rw [e2, h6, s2]
    refine ⟨by rw [f1, f2, znI_eq (by omega) (by omega)]; omega, ?_⟩
    rw [h1]
    exact h2.lw h3 hj (by omega) (fun i hi => by rw [e3 _ (by omega), show 1000 + (b + i) = 1000 + b + i by omega]; exact h7 i hi) f1 f2
theorem m_marks (h : zH) : ∃ h', g_X12_republic_46 139 zfu 0 h = some (0, h') ∧ (∀ m, m < 4 → h'.1 175 m = 0) ∧ zsm (fun a _ => a = 175) h h' := by
  have ev : vp_nar .boolean 0 = 0 := vnar false
  obtain ⟨h1, m1, e1, ⟨k1, w1⟩⟩ := zloopH (L := fun f i (_ : Unit) h => g_X12_republic_46 139 f i h) (N := 4) (f := fun _ s => s) (fun i _ h1 => (∀ m, m < i → h1.1 175 m = 0) ∧ zsm (fun a _ => a = 175) h h1)
    (by
      intro f i s h1 hi ⟨k1, w1⟩
      show ∃ h', g_X12_republic_46 139 (f + 1) (nI i) h1 = g_X12_republic_46 139 f (nI (i + 1)) h' ∧ _
      have e : g_X12_republic_46 139 (f + 1) (nI i) h1 = g_X12_republic_46 139 f (nI (i + 1)) (zpi h1 175 i 0) := by
        rw [g_X12_republic_46, if_neg (by rw [zleL_4 (by omega)]; omega), zin_t hi (by omega), zgu_t, zx_nI (by omega), zr_139_48, ev, zlet_e, nI_1]
      refine ⟨_, e, fun m hm => ?_, w1.tr (zsm.pi rfl)⟩
      rw [zpi_r]
      by_cases c : m = i
      · rw [if_pos ⟨rfl, c⟩]
      · rw [if_neg (by omega)]; exact k1 m (by omega))
    4 0 () zfu h (by omega) (by decide) ⟨fun k hk => by omega, zsm.rf⟩
  refine ⟨h1, ?_, k1, w1⟩
  refine Eq.trans e1 ?_
  show g_X12_republic_46 139 (m1 + 1) (nI 4) h1 = _
  rw [g_X12_republic_46, if_pos (by decide)]
/-- all that the reference does with a draft -/
theorem m_lay {pS : Nat → zSt} (J : DI D) (M : DMd D q h) (hq : q ≤ 1000) (h11 : h.1 139 1 = 0) (h0 : M0 h) : ∃ h', ((g_X12_lays h 139).bind fun v_4 => (g_X12_fresh v_4 139).bind fun v_5 => zgu (zin 0 6) <| zlet (zpi v_5 (zR 139 37) (zx 0) 0) fun h_7 => zgu (zin 0 5) <| zlet (zpi h_7 (zR 139 41) (zx 0) 0) fun h_9 => zlet (zpi h_9 139 49 0) fun h_10 => g_X12_republic_46 139 zfu 0 h_10) = some (0, h') ∧ RelM (dR D) (ifr (rn (dR D)) (gtD D)) 0 pS (nZ D) h' ∧ zsm Ahi h h' := by
  obtain ⟨⟨a1, a2, a3, a4, a5, a6, a7, a8⟩, d2, d3, -, len, l1, l2, l3, l4⟩ := M
  have hn := J.1.1
  obtain ⟨h1, e1, k1, k2, k3, k4, k5, k6, k7, k8, k9, w1⟩ := m_lays h
  have RM1 : RM (dR D) h1 := ⟨by rw [k1 0 (by decide)]; exact a1, by rw [k1 1 (by decide)]; exact a2, by rw [k1 2 (by decide)]; exact a3, by rw [k1 3 (by decide)]; exact a4, fun p hp => by rw [k3 p (by omega)]; exact a5 p hp, fun p hp => by rw [k4 p (by omega)]; exact a6 p hp, fun p hp => by rw [k5 p (by omega)]; exact a7 p hp, fun p hp => by rw [k6 p (by omega)]; exact a8 p hp⟩
  have LM1 : LM (dR D) h1 := ⟨lm1 (j := 0) l3 (by decide) (by omega) (k9 0 (by decide)).1 (k9 0 (by decide)).2 k8, lm1 (j := 1) l4 (by decide) (by omega) (k9 1 (by decide)).1 (k9 1 (by decide)).2 k8⟩
  have G1 : ∀ k, k < 49 → h1.1 147 k = nI (gtD D k) := fun k hk => by rw [k7 k hk]; exact (d2 k hk).2
  have N1 : ∀ p, p < rn (dR D) → h1.2 142 p = w27 (dnm D p) := fun p hp => by rw [k2 p (by omega)]; exact d3 p hp
  obtain ⟨h2, e2, S2, w2⟩ := e_X12_fresh (h := h1) hn RM1.1 G1
  have w3 : zsm (fun a k => (a = 164 ∧ k = 0) ∨ (a = 168 ∧ k = 0) ∨ (a = 139 ∧ k = 49)) h2 (zpi (zpi (zpi h2 164 0 0) 168 0 0) 139 49 0) := (zsm.pi (by omega)).tr ((zsm.pi (by omega)).tr (zsm.pi (by omega)))
  have j1 : (zpi (zpi (zpi h2 164 0 0) 168 0 0) 139 49 0).1 164 0 = nI 0 := by simp [zpi_r]; rfl
  have j2 : (zpi (zpi (zpi h2 164 0 0) 168 0 0) 139 49 0).1 168 0 = nI 0 := by simp [zpi_r]; rfl
  have j3 : (zpi (zpi (zpi h2 164 0 0) 168 0 0) 139 49 0).1 139 49 = nI 0 := by simp [zpi_r]; rfl
  have c6 : zin 0 6 = true := by decide
  have c5 : zin 0 5 = true := by decide
  have x0 : zx 0 = 0 := by decide
  rw [e1, zbind_s, e2, zbind_s, c6, zgu_t, zr_139_37, x0, zlet_e, c5, zgu_t, zr_139_41, zlet_e, zlet_e]
  generalize zpi (zpi (zpi h2 164 0 0) 168 0 0) 139 49 0 = h3 at *
  obtain ⟨h4, e4, k14, w4⟩ := m_marks h3
  have u2 : zsm (fun a k => a = 171 ∨ (a = 164 ∧ k = 0) ∨ (a = 168 ∧ k = 0) ∨ (a = 139 ∧ k = 49) ∨ a = 175) h1 h4 := (w2.mono (fun a k z => by unfold A171 at z; omega)).tr ((w3.mono (fun a k z => by omega)).tr (w4.mono (fun a k z => by omega)))
  refine ⟨h4, e4, ⟨⟨RM1.same u2 (fun a b _ _ => by omega), LM1.same u2 (fun a k _ _ => by omega), fun k hk => ?_, fun p hp => ?_, ?_, ?_, fun m hm => ⟨k14 m hm, fun z => by cases z⟩, ?_, fun k hk => absurd hk (Nat.not_lt_zero k)⟩, ?_, ⟨Nat.zero_le _, ?_, fun i hi => absurd hi (Nat.not_lt_zero i)⟩, fun p hp => ?_⟩, (w1.mono (fun a k z => by unfold Ahi; omega)).tr (u2.mono (fun a k z => by unfold Ahi; omega))⟩
  · rw [(u2 _ _ (by omega)).1]; exact G1 k hk
  · rw [(u2 _ _ (by omega)).2]; exact N1 p hp
  · exact ⟨by rw [(w4 _ _ (by omega)).1]; exact j1, fun k hk => absurd hk (Nat.not_lt_zero k)⟩
  · exact ⟨by rw [(w4 _ _ (by omega)).1]; exact j2, fun k hk => absurd hk (Nat.not_lt_zero k)⟩
  · rw [(u2 _ _ (by omega)).1, (w1 _ _ (by omega)).1]; exact h11
  · exact (S2.same w3 (fun b => by omega)).same w4 (fun b => by omega)
  · rw [(w4 _ _ (by omega)).1]; exact j3
  · rw [(u2 _ _ (by omega)).1, (w1 _ _ (by omega)).1]; exact h0 p hp
end N15
