/-! a republic that was read is laid: the class -/
theorem zcp {h h' : zH} {u t n : Nat} (e : zcpi h u 0 t 0 n = h') : (∀ k, k < n → h'.1 t k = h.1 u k) ∧ zsm (fun a _ => a = t) h h' := by
  subst e
  exact ⟨fun k hk => by rw [zcpi_at (by omega) (by omega), show 0 + (k - 0) = k by omega], zsm.cpi (fun k _ _ => rfl)⟩
theorem zcpL {h h' : zH} {u t n : Nat} (e : zcpl h u 0 t 0 n = h') : (∀ k, k < n → h'.2 t k = h.2 u k) ∧ zsm (fun a _ => a = t) h h' := by
  subst e
  refine ⟨fun k hk => ?_, fun a b c => ⟨rfl, ?_⟩⟩
  · show (if t = t then va_cpy (h.2 u) (h.2 t) 0 0 n k else h.2 t k) = _
    rw [if_pos rfl, va_cpy, if_pos ⟨Nat.zero_le _, by omega⟩, show 0 + (k - 0) = k by omega]
  · show (if a = t then va_cpy (h.2 u) (h.2 t) 0 0 n b else h.2 a b) = _
    rw [if_neg c]
theorem zbit_b (b : Bool) : zbit (zb b) = true := by cases b <;> decide
section N14
variable {T : zTp} {q : Nat} {h h' hc hm hc1 hm1 : zH} {D : zDr} {g : zLaw} {i len : Nat}
theorem c_laws (h : zH) : ∃ h', g_X1_become h 10 21 = some h' ∧ (∀ k, k < 1000 → h'.1 11 k = h.1 22 k) ∧ (∀ k, 7 ≤ k → k ≤ 11 → h'.1 10 k = h.1 21 k) ∧ zsm (fun a _ => a = 10 ∨ a = 11) h h' := by
  have c1 : zcg 0 0 1000 1000 1000 = true := by decide
  have x0 : zx 0 = 0 := by decide
  have x1 : zx 1000 = 1000 := by decide
  have z1 : zR 10 0 = 11 ∧ zR 21 0 = 22 := by decide +kernel
  unfold g_X1_become
  rw [z1.1, z1.2, c1, x0, x1, zgu_t, zlet_e]
  generalize e1 : zcpi h 22 0 11 0 1000 = h1
  obtain ⟨k1, w1⟩ := zcp e1
  have w2 : zsm (fun a _ => a = 10) h1 (zpi h1 10 7 (h1.1 21 7)) := zsm.pi rfl
  have k2 : (zpi h1 10 7 (h1.1 21 7)).1 10 7 = h1.1 21 7 := zpi_s _ _ _ _
  rw [zlet_e]
  generalize zpi h1 10 7 (h1.1 21 7) = h2 at *
  have w3 : zsm (fun a k => a = 10 ∧ k = 8) h2 (zpi h2 10 8 (h2.1 21 8)) := zsm.pi ⟨rfl, rfl⟩
  have k3 : (zpi h2 10 8 (h2.1 21 8)).1 10 8 = h2.1 21 8 := zpi_s _ _ _ _
  rw [zlet_e]
  generalize zpi h2 10 8 (h2.1 21 8) = h3 at *
  have w4 : zsm (fun a k => a = 10 ∧ k = 9) h3 (zpi h3 10 9 (h3.1 21 9)) := zsm.pi ⟨rfl, rfl⟩
  have k4 : (zpi h3 10 9 (h3.1 21 9)).1 10 9 = h3.1 21 9 := zpi_s _ _ _ _
  rw [zlet_e]
  generalize zpi h3 10 9 (h3.1 21 9) = h4 at *
  have w5 : zsm (fun a k => a = 10 ∧ k = 10) h4 (zpi h4 10 10 (h4.1 21 10)) := zsm.pi ⟨rfl, rfl⟩
  have k5 : (zpi h4 10 10 (h4.1 21 10)).1 10 10 = h4.1 21 10 := zpi_s _ _ _ _
  rw [zlet_e]
  generalize zpi h4 10 10 (h4.1 21 10) = h5 at *
  have w6 : zsm (fun a k => a = 10 ∧ k = 11) h5 (zpi h5 10 11 (h5.1 21 11)) := zsm.pi ⟨rfl, rfl⟩
  have k6 : (zpi h5 10 11 (h5.1 21 11)).1 10 11 = h5.1 21 11 := zpi_s _ _ _ _
  rw [zlet_e]
  generalize zpi h5 10 11 (h5.1 21 11) = h6 at *
  refine ⟨h6, rfl, fun k hk => ?_, fun k a b => ?_, (w1.mono (fun a k z => Or.inr z)).tr ((w2.mono (fun a k z => Or.inl z)).tr ((w3.mono (fun a k z => Or.inl z.1)).tr ((w4.mono (fun a k z => Or.inl z.1)).tr ((w5.mono (fun a k z => Or.inl z.1)).tr (w6.mono (fun a k z => Or.inl z.1))))))⟩
  · rw [(w6 _ _ (by omega)).1, (w5 _ _ (by omega)).1, (w4 _ _ (by omega)).1, (w3 _ _ (by omega)).1, (w2 _ _ (by omega)).1]; exact k1 k hk
  · have hk : k = 7 ∨ k = 8 ∨ k = 9 ∨ k = 10 ∨ k = 11 := by omega
    rcases hk with rfl | rfl | rfl | rfl | rfl
    · rw [(w6 _ _ (by omega)).1, (w5 _ _ (by omega)).1, (w4 _ _ (by omega)).1, (w3 _ _ (by omega)).1, k2, (w1 _ _ (by omega)).1]
    · rw [(w6 _ _ (by omega)).1, (w5 _ _ (by omega)).1, (w4 _ _ (by omega)).1, k3, (w2 _ _ (by omega)).1, (w1 _ _ (by omega)).1]
    · rw [(w6 _ _ (by omega)).1, (w5 _ _ (by omega)).1, k4, (w3 _ _ (by omega)).1, (w2 _ _ (by omega)).1, (w1 _ _ (by omega)).1]
    · rw [(w6 _ _ (by omega)).1, k5, (w4 _ _ (by omega)).1, (w3 _ _ (by omega)).1, (w2 _ _ (by omega)).1, (w1 _ _ (by omega)).1]
    · rw [k6, (w5 _ _ (by omega)).1, (w4 _ _ (by omega)).1, (w3 _ _ (by omega)).1, (w2 _ _ (by omega)).1, (w1 _ _ (by omega)).1]
theorem c_become (b9 : zbit (h.1 14 9) = true) (b10 : zbit (h.1 14 10) = true) : ∃ h', g_X5_become h 3 14 = some h' ∧ (∀ p, p < 7 → h'.2 4 p = h.2 15 p) ∧ (∀ p, p < 7 → h'.1 5 p = h.1 16 p) ∧ (∀ p, p < 7 → h'.1 6 p = h.1 17 p) ∧ (∀ p, p < 7 → h'.1 7 p = h.1 18 p) ∧ (∀ p, p < 7 → h'.1 8 p = h.1 19 p) ∧ (∀ k, k < 49 → h'.1 9 k = h.1 20 k) ∧ (∀ k, k < 1000 → h'.1 11 k = h.1 22 k) ∧ (∀ k, 7 ≤ k → k ≤ 11 → h'.1 10 k = h.1 21 k) ∧ (∀ k, 7 ≤ k → k ≤ 10 → h'.1 3 k = h.1 14 k) ∧ zsm (fun a _ => 3 ≤ a ∧ a ≤ 11) h h' := by
  have c1 : zcg 0 0 7 7 7 = true := by decide
  have c2 : zcg 0 0 49 49 49 = true := by decide
  have x0 : zx 0 = 0 := by decide
  have x7 : zx 7 = 7 := by decide
  have x49 : zx 49 = 49 := by decide
  unfold g_X5_become
  rw [zr_3_0, zr_3_1, zr_3_2, zr_3_3, zr_3_4, zr_3_5, zr_3_6, zr_14_0, zr_14_1, zr_14_2, zr_14_3, zr_14_4, zr_14_5, zr_14_6, c1, c2, x0, x7, x49, zgu_t, zlet_e]
  generalize e1 : zcpl h 15 0 4 0 7 = h1
  obtain ⟨k1, w1⟩ := zcpL e1
  rw [zgu_t, zlet_e]
  generalize e2 : zcpi h1 16 0 5 0 7 = h2
  obtain ⟨k2, w2⟩ := zcp e2
  rw [zgu_t, zlet_e]
  generalize e3 : zcpi h2 17 0 6 0 7 = h3
  obtain ⟨k3, w3⟩ := zcp e3
  rw [zgu_t, zlet_e]
  generalize e4 : zcpi h3 18 0 7 0 7 = h4
  obtain ⟨k4, w4⟩ := zcp e4
  rw [zgu_t, zlet_e]
  generalize e5 : zcpi h4 19 0 8 0 7 = h5
  obtain ⟨k5, w5⟩ := zcp e5
  rw [zgu_t, zlet_e]
  generalize e6 : zcpi h5 20 0 9 0 49 = h6
  obtain ⟨k6, w6⟩ := zcp e6
  obtain ⟨h7, e7, k7, k7', w7⟩ := c_laws h6
  rw [e7, zbind_s]
  have u7 : zsm (fun a _ => 4 ≤ a ∧ a ≤ 11) h h7 := (w1.mono (fun a k z => by omega)).tr ((w2.mono (fun a k z => by omega)).tr ((w3.mono (fun a k z => by omega)).tr ((w4.mono (fun a k z => by omega)).tr ((w5.mono (fun a k z => by omega)).tr ((w6.mono (fun a k z => by omega)).tr (w7.mono (fun a k z => by omega)))))))
  rw [zlet_e]
  have v1 : zsm (fun a k => a = 3 ∧ k = 7) h7 (zpi h7 3 7 (h7.1 14 7)) := zsm.pi ⟨rfl, rfl⟩
  have j1 : (zpi h7 3 7 (h7.1 14 7)).1 3 7 = h7.1 14 7 := zpi_s _ _ _ _
  generalize zpi h7 3 7 (h7.1 14 7) = i1 at *
  rw [zlet_e]
  have v2 : zsm (fun a k => a = 3 ∧ k = 8) i1 (zpi i1 3 8 (i1.1 14 8)) := zsm.pi ⟨rfl, rfl⟩
  have j2 : (zpi i1 3 8 (i1.1 14 8)).1 3 8 = i1.1 14 8 := zpi_s _ _ _ _
  generalize zpi i1 3 8 (i1.1 14 8) = i2 at *
  have r2 : ∀ k, i2.1 14 k = h.1 14 k := fun k => by rw [(v2 _ _ (by omega)).1, (v1 _ _ (by omega)).1, (u7 _ _ (by omega)).1]
  rw [r2 9, b9, zgu_t, zlet_e]
  have v3 : zsm (fun a k => a = 3 ∧ k = 9) i2 (zpi i2 3 9 (h.1 14 9)) := zsm.pi ⟨rfl, rfl⟩
  have j3 : (zpi i2 3 9 (h.1 14 9)).1 3 9 = h.1 14 9 := zpi_s _ _ _ _
  generalize zpi i2 3 9 (h.1 14 9) = i3 at *
  have r3 : i3.1 14 10 = h.1 14 10 := by rw [(v3 _ _ (by omega)).1]; exact r2 10
  rw [r3, b10, zgu_t, zlet_e]
  have v4 : zsm (fun a k => a = 3 ∧ k = 10) i3 (zpi i3 3 10 (h.1 14 10)) := zsm.pi ⟨rfl, rfl⟩
  have j4 : (zpi i3 3 10 (h.1 14 10)).1 3 10 = h.1 14 10 := zpi_s _ _ _ _
  generalize zpi i3 3 10 (h.1 14 10) = i4 at *
  have v : zsm (fun a _ => a = 3) h7 i4 := (v1.mono (fun a k z => z.1)).tr ((v2.mono (fun a k z => z.1)).tr ((v3.mono (fun a k z => z.1)).tr (v4.mono (fun a k z => z.1))))
  refine ⟨i4, rfl, fun p hp => ?_, fun p hp => ?_, fun p hp => ?_, fun p hp => ?_, fun p hp => ?_, fun k hk => ?_, fun k hk => ?_, fun k a b => ?_, fun k a b => ?_, (u7.mono (fun a k z => by omega)).tr (v.mono (fun a k z => by omega))⟩
  · rw [(v _ _ (by omega)).2, (w7 _ _ (by omega)).2, (w6 _ _ (by omega)).2, (w5 _ _ (by omega)).2, (w4 _ _ (by omega)).2, (w3 _ _ (by omega)).2, (w2 _ _ (by omega)).2]; exact k1 p hp
  · rw [(v _ _ (by omega)).1, (w7 _ _ (by omega)).1, (w6 _ _ (by omega)).1, (w5 _ _ (by omega)).1, (w4 _ _ (by omega)).1, (w3 _ _ (by omega)).1, k2 p hp, (w1 _ _ (by omega)).1]
  · rw [(v _ _ (by omega)).1, (w7 _ _ (by omega)).1, (w6 _ _ (by omega)).1, (w5 _ _ (by omega)).1, (w4 _ _ (by omega)).1, k3 p hp, (w2 _ _ (by omega)).1, (w1 _ _ (by omega)).1]
  · rw [(v _ _ (by omega)).1, (w7 _ _ (by omega)).1, (w6 _ _ (by omega)).1, (w5 _ _ (by omega)).1, k4 p hp, (w3 _ _ (by omega)).1, (w2 _ _ (by omega)).1, (w1 _ _ (by omega)).1]
  · rw [(v _ _ (by omega)).1, (w7 _ _ (by omega)).1, (w6 _ _ (by omega)).1, k5 p hp, (w4 _ _ (by omega)).1, (w3 _ _ (by omega)).1, (w2 _ _ (by omega)).1, (w1 _ _ (by omega)).1]
  · rw [(v _ _ (by omega)).1, (w7 _ _ (by omega)).1, k6 k hk, (w5 _ _ (by omega)).1, (w4 _ _ (by omega)).1, (w3 _ _ (by omega)).1, (w2 _ _ (by omega)).1, (w1 _ _ (by omega)).1]
  · rw [(v _ _ (by omega)).1, k7 k hk, (w6 _ _ (by omega)).1, (w5 _ _ (by omega)).1, (w4 _ _ (by omega)).1, (w3 _ _ (by omega)).1, (w2 _ _ (by omega)).1, (w1 _ _ (by omega)).1]
  · rw [(v _ _ (by omega)).1, k7' k a b, (w6 _ _ (by omega)).1, (w5 _ _ (by omega)).1, (w4 _ _ (by omega)).1, (w3 _ _ (by omega)).1, (w2 _ _ (by omega)).1, (w1 _ _ (by omega)).1]
  · have hk : k = 7 ∨ k = 8 ∨ k = 9 ∨ k = 10 := by omega
    rcases hk with rfl | rfl | rfl | rfl
    · rw [(v4 _ _ (by omega)).1, (v3 _ _ (by omega)).1, (v2 _ _ (by omega)).1, j1, (u7 _ _ (by omega)).1]
    · rw [(v4 _ _ (by omega)).1, (v3 _ _ (by omega)).1, j2, (v1 _ _ (by omega)).1, (u7 _ _ (by omega)).1]
    · rw [(v4 _ _ (by omega)).1, j3]
    · rw [j4]
theorem lc1 (H : DLc g h i len) (hl : len ≤ 1000) (e1 : h'.1 10 i = h.1 21 i) (e2 : h'.1 10 (i + 1) = h.1 21 (i + 1)) (e3 : ∀ k, k < 1000 → h'.1 11 k = h.1 22 k) : match g with
  | none => h'.1 10 i = h'.1 10 (i + 1)
  | some f => ¬ h'.1 10 i = h'.1 10 (i + 1) ∧ LW f h' (h'.1 10 i) (h'.1 10 (i + 1)) := by
  cases g with
  | none =>
    show h'.1 10 i = h'.1 10 (i + 1)
    rw [e1, e2]; exact H
  | some f =>
    obtain ⟨b, cc, F, h1, h2, h3, h4, h5, h6⟩ := H
    show ¬ h'.1 10 i = h'.1 10 (i + 1) ∧ LW f h' (h'.1 10 i) (h'.1 10 (i + 1))
    have hp := h2.ne
    rw [e1, e2, h4, h5, h1]
    refine ⟨by rw [znI_eq (by omega) (by omega)]; omega, h2.lw (by omega) (fun j hj => by rw [e3 _ (by omega)]; exact h6 j hj)⟩
def gtD (D : zDr) (k : Nat) : Nat := (dgr D k).getD 0
theorem gtD_le (J : DI D) (k : Nat) : gtD D k ≤ 9 := by
  unfold gtD
  cases e : dgr D k with
  | none => exact Nat.zero_le _
  | some g => exact J.2.2.2 k g e
theorem gt_c (J : DI D) (k : Nat) : (if 0 < zo (dgr D k) then zo (dgr D k) else 0) = nI (gtD D k) := by
  have := gtD_le J k
  unfold gtD at *
  cases e : dgr D k with
  | none => rfl
  | some g =>
    rw [e] at this
    have h9 : g ≤ 9 := this
    show (if 0 < nI g then nI g else 0) = nI g
    by_cases c : g = 0
    · subst c; rfl
    · rw [if_pos (by rw [zltL_0 (by omega)]; omega)]
def yZ0 : zY := (0, fun _ => 0, fun _ => 0, fun _ => 0)
def hZ0 : zHd := (0, fun _ => 0, fun _ => false)
def nZ (D : zDr) : zZ := (gtD D, yZ0, hZ0, fun _ => (false, ifr 0 (fun _ => 0), yZ0, hZ0), (0, fun _ => 0), dnm D)
theorem z1022 : ∀ b, b < 10 → (1022 : Nat).testBit b = (decide (1 ≤ b) && iba hZ0 b) := by decide
theorem c_marks (h : zH) (x : Int32) : ∃ h', g_X11_republic_49 0 zfu x 0 h = some (x, h') ∧ (∀ m, m < 4 → h'.1 (45 + 7 * m) 4 = 0) ∧ zsm (fun a k => (45 ≤ a ∧ a ≤ 72) ∧ k = 4) h h' := by
  obtain ⟨h1, m1, e1, ⟨k1, w1⟩⟩ := zloopH (L := fun f i (_ : Unit) h => g_X11_republic_49 0 f x i h) (N := 4) (f := fun _ s => s) (fun i _ h1 => (∀ m, m < i → h1.1 (45 + 7 * m) 4 = 0) ∧ zsm (fun a k => (45 ≤ a ∧ a ≤ 72) ∧ k = 4) h h1)
    (by
      intro f i s h1 hi ⟨k1, w1⟩
      show ∃ h', g_X11_republic_49 0 (f + 1) x (nI i) h1 = g_X11_republic_49 0 f x (nI (i + 1)) h' ∧ _
      have e : g_X11_republic_49 0 (f + 1) x (nI i) h1 = g_X11_republic_49 0 f x (nI (i + 1)) (zpi h1 (45 + 7 * i) 4 0) := by
        rw [g_X11_republic_49, if_neg (by rw [zleL_4 (by omega)]; omega), zin_t hi (by omega), zgu_t, zx_nI (by omega), zr_0_7, (momk i hi).2, zlet_e, nI_1]
      refine ⟨_, e, fun m hm => ?_, w1.tr (zsm.pi ⟨by omega, rfl⟩)⟩
      rw [zpi_r]
      by_cases c : m = i
      · rw [if_pos ⟨by rw [c], rfl⟩]
      · rw [if_neg (by omega)]; exact k1 m (by omega))
    4 0 () zfu h (by omega) (by decide) ⟨fun k hk => by omega, zsm.rf⟩
  refine ⟨h1, ?_, k1, w1⟩
  refine Eq.trans e1 ?_
  show g_X11_republic_49 0 (m1 + 1) x (nI 4) h1 = _
  rw [g_X11_republic_49, if_pos (by decide)]
/-- all that the class does with a draft -/
theorem c_lay {pS : Nat → zSt} (J : DI D) (C : DCd D q h) (hq : q ≤ 1000) (h11 : h.1 1 1 = 0) {top : Nat} (ht : top < 16) (h73 : h.1 73 1 = nI top) : ∃ h', ((g_X5_become h 3 14).bind fun v_3 => (g_X7_begin v_3 29).bind fun v_4 => (g_X2_begin v_4 37).bind fun v_5 => (g_X3_forget v_5 73).bind fun v_6 => g_X11_republic_49 0 zfu 0 0 v_6) = some (0, h') ∧ RelC (dR D) (ifr (rn (dR D)) (gtD D)) 0 pS (nZ D) h' ∧ zsm Alo h h' := by
  obtain ⟨⟨a1, a2, a3, a4, a5, a6, a7, a8⟩, d2, d3, -, len, l1, l2, l3, l4⟩ := C
  have hn := J.1.1
  obtain ⟨h1, e1, k1, k2, k3, k4, k5, k6, k7, k8, k9, w1⟩ := c_become (h := h) (by rw [a3]; exact zbit_b _) (by rw [a4]; exact zbit_b _)
  have RC1 : RC (dR D) h1 := ⟨by rw [k9 7 (by decide) (by decide)]; exact a1, by rw [k9 8 (by decide) (by decide)]; exact a2, by rw [k9 9 (by decide) (by decide)]; exact a3, by rw [k9 10 (by decide) (by decide)]; exact a4, fun p hp => by rw [k2 p (by omega)]; exact a5 p hp, fun p hp => by rw [k3 p (by omega)]; exact a6 p hp, fun p hp => by rw [k4 p (by omega)]; exact a7 p hp, fun p hp => by rw [k5 p (by omega)]; exact a8 p (by omega)⟩
  have LC1 : LC (dR D) h1 := ⟨lc1 l3 (by omega) (k8 8 (by decide) (by decide)) (k8 9 (by decide) (by decide)) k7, lc1 l4 (by omega) (k8 10 (by decide) (by decide)) (k8 11 (by decide) (by decide)) k7⟩
  have G1 : ∀ k, k < 49 → (if 0 < h1.1 9 k then h1.1 9 k else 0) = nI (gtD D k) := fun k hk => by rw [k6 k hk, d2 k hk]; exact gt_c J k
  have N1 : ∀ p, p < rn (dR D) → h1.2 4 p = w32 (dnm D p) := fun p hp => by rw [k1 p (by omega)]; exact d3 p hp
  obtain ⟨h2, e2, S2, w2⟩ := e_X7_begin (t := 29) z29 hn RC1.1 G1
  have G2 : ∀ k, k < 49 → (if 0 < h2.1 9 k then h2.1 9 k else 0) = nI (gtD D k) := fun k hk => by rw [(w2 _ _ (by unfold AO; omega)).1]; exact G1 k hk
  obtain ⟨h3, e3, S3, w3⟩ := e_X7_begin (h := h2) (t := 40) z40 hn (by rw [(w2 _ _ (by unfold AO; omega)).1]; exact RC1.1) G2
  have w4 : zsm (fun a k => (a = 38 ∧ k = 1) ∨ (a = 37 ∧ (k = 2 ∨ k = 3))) h3 (zpi (zpi (zpi h3 38 1 0) 37 2 0) 37 3 1022) := (zsm.pi (by omega)).tr ((zsm.pi (by omega)).tr (zsm.pi (by omega)))
  have j1 : (zpi (zpi (zpi h3 38 1 0) 37 2 0) 37 3 1022).1 38 1 = nI 0 := by simp [zpi_r]; rfl
  have j2 : (zpi (zpi (zpi h3 38 1 0) 37 2 0) 37 3 1022).1 37 2 = nI 0 := by simp [zpi_r]; rfl
  have j3 : (zpi (zpi (zpi h3 38 1 0) 37 2 0) 37 3 1022).1 37 3 = nI 1022 := by simp [zpi_r]; rfl
  have e4 : g_X2_begin h2 37 = some (zpi (zpi (zpi h3 38 1 0) 37 2 0) 37 3 1022) := by
    unfold g_X2_begin
    rw [mo37.1, mo37.2.1, e3, zbind_s]; rfl
  generalize zpi (zpi (zpi h3 38 1 0) 37 2 0) 37 3 1022 = h4 at *
  have w5 : zsm (fun a k => a = 73 ∧ k = 2) h4 (zpi h4 73 2 0) := zsm.pi ⟨rfl, rfl⟩
  have j5 : (zpi h4 73 2 0).1 73 2 = nI 0 := zpi_s _ _ _ _
  have e5 : g_X3_forget h4 73 = some (zpi h4 73 2 0) := rfl
  generalize zpi h4 73 2 0 = h5 at *
  obtain ⟨h6, e6, k16, w6⟩ := c_marks h5 0
  have u2 : zsm (fun a k => (29 ≤ a ∧ a ≤ 32) ∨ (40 ≤ a ∧ a ≤ 43) ∨ (a = 38 ∧ k = 1) ∨ (a = 37 ∧ (k = 2 ∨ k = 3)) ∨ (a = 73 ∧ k = 2) ∨ ((45 ≤ a ∧ a ≤ 72) ∧ k = 4)) h1 h6 := (w2.mono (fun a k z => by unfold AO at z; omega)).tr ((w3.mono (fun a k z => by unfold AO at z; omega)).tr ((w4.mono (fun a k z => by omega)).tr ((w5.mono (fun a k z => by omega)).tr (w6.mono (fun a k z => by omega)))))
  refine ⟨h6, by rw [e1, zbind_s, e2, zbind_s, e4, zbind_s, e5, zbind_s, e6], ⟨⟨RC1.same3 u2 (fun a b _ _ => by omega), LC1.same u2 (fun k => by omega) (fun k _ => by omega), fun k hk => ?_, fun p hp => ?_, ?_, ?_, ?_, fun m hm => ⟨k16 m hm, fun z => by cases z⟩, ?_, fun k hk => absurd hk (Nat.not_lt_zero k)⟩, ?_, ⟨Nat.zero_le _, top, ht, ?_, ?_, fun i hi => absurd hi (Nat.not_lt_zero i)⟩⟩, (w1.mono (fun a k z => by unfold Alo; omega)).tr (u2.mono (fun a k z => by unfold Alo; omega))⟩
  · rw [(u2 _ _ (by omega)).1]; exact G1 k hk
  · rw [(u2 _ _ (by omega)).2]; exact N1 p hp
  · exact ((((S2.same w3 (fun a b _ _ => by unfold AO; omega)).same w4 (fun a b _ _ => by omega)).same w5 (fun a b _ _ => by omega)).same w6 (fun a b _ _ => by omega))
  · exact ⟨by rw [(w6 _ _ (by omega)).1, (w5 _ _ (by omega)).1]; exact j1, fun k hk => absurd hk (Nat.not_lt_zero k)⟩
  · exact ⟨by rw [(w6 _ _ (by omega)).1, (w5 _ _ (by omega)).1]; exact j2, 1022, by decide, by rw [(w6 _ _ (by omega)).1, (w5 _ _ (by omega)).1]; exact j3, z1022⟩
  · rw [(u2 _ _ (by omega)).1, (w1 _ _ (by omega)).1]; exact h11
  · exact ((S3.same w4 (fun a b _ _ => by omega)).same w5 (fun a b _ _ => by omega)).same w6 (fun a b _ _ => by omega)
  · rw [(u2 _ _ (by omega)).1, (w1 _ _ (by omega)).1]; exact h73
  · rw [(w6 _ _ (by omega)).1]; exact j5
end N14
