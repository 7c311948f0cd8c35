/-! feed: both answer alike -/
def shf (j : Nat) : Int32 := 56 - nI (8 * j)
def sg8 (w : Int64) (j : Nat) : Int32 := (((w.toUInt64 >>> ((shf j).toInt64.toUInt64 &&& Int64.toUInt64 63)).toInt64).toInt32) &&& 255
theorem shf_step : ∀ j, j < 8 → shf j + (-8) = shf (j + 1) ∧ ¬ shf j < 0 := by decide +kernel
theorem shf_mod : ∀ i, i < 24 → (56 : Int32) - (8 * (nI i &&& 7)) = shf (i % 8) := by decide +kernel
def tak (s : Int32) : Bool := decide (s = 10) || (!decide (s < 32) && !decide (126 < s))
def f1 (s : Int32) (T : zTp) : zTp := if 1000 ≤ T.1 then T else if tak s then (T.1 + 1, zu T.2 T.1 (zx s)) else T
def apf (w : Int64) : Nat → Nat → zTp → zTp
  | 0, _, T => T
  | k + 1, j, T => apf w k (j + 1) (f1 (sg8 w j) T)
def mpf (a b c : Int64) : Nat → Nat → zTp → zTp
  | 0, _, T => T
  | k + 1, i, T => mpf a b c k (i + 1) (f1 (sg8 (if i < 8 then a else if i < 16 then b else c) (i % 8)) T)
theorem mpf_all (a b c : Int64) (T : zTp) : mpf a b c 24 0 T = apf c 8 0 (apf b 8 0 (apf a 8 0 T)) := rfl
theorem nar_c : ∀ c, c < 127 → vp_nar .char (((nI c).toUInt32 % 65536).toInt32) = nI c := by decide +kernel
theorem tak_c {s : Int32} (ht : tak s = true) : ∃ c, s = nI c ∧ (c = 10 ∨ (32 ≤ c ∧ c ≤ 126)) := by
  unfold tak at ht
  by_cases c : s = 10
  · exact ⟨10, c, Or.inl rfl⟩
  · rw [decide_eq_false c, Bool.false_or, Bool.and_eq_true] at ht
    obtain ⟨a, b⟩ := ht
    have a : ¬ s < 32 := by
      intro z
      rw [decide_eq_true z] at a
      cases a
    have b : ¬ 126 < s := by
      intro z
      rw [decide_eq_true z] at b
      cases b
    have h0 : ¬ s < 0 := fun z => a (by rw [Int32.lt_iff_toInt_lt] at z ⊢; rw [show (0 : Int32).toInt = 0 by decide] at z; rw [show (32 : Int32).toInt = 32 by decide]; omega)
    obtain ⟨j, hj, rfl⟩ := nI_of h0
    refine ⟨j, rfl, Or.inr ?_⟩
    rw [zltR_32 hj] at a
    rw [zltL_126 hj] at b
    omega
def TF (T : zTp) (h : zH) : Prop := h.1 139 1 = nI T.1 ∧ ∀ k, k < T.1 → h.1 140 k = nI (T.2 k)
section N19
variable {R : zRp} {S S' : zSt} {pc : Nat} {pS : Nat → zSt} {Z : zZ} {T : zTp} {h h' : zH} {s : Int32}
theorem f1_I (I : TI T) : TI (f1 s T) := by
  unfold f1
  by_cases c : 1000 ≤ T.1
  · rw [if_pos c]; exact I
  · rw [if_neg c]
    cases ht : tak s with
    | false => exact I
    | true =>
      obtain ⟨x, rfl, hx⟩ := tak_c ht
      rw [if_pos rfl]
      refine ⟨show T.1 + 1 ≤ 1000 by omega, fun k hk => ?_⟩
      have hk : k < T.1 + 1 := hk
      show zu T.2 T.1 (zx (nI x)) k = 10 ∨ (32 ≤ zu T.2 T.1 (zx (nI x)) k ∧ zu T.2 T.1 (zx (nI x)) k ≤ 126)
      rw [zx_nI (by omega)]
      by_cases d : k = T.1
      · subst d; rw [zu_s]; exact hx
      · rw [zu_n d]; exact I.2 k (by omega)
/-- a sign: in the class -/
theorem c_43 (I : TI T) (K : TC T h) (k3 : Int64 → Int32 → zH → Option zH) (w : Int64) (x : Int32) : ∃ h', (if s = 10 then (g_X8_append_38 1 k3 w x s h) else (if s < 32 then (g_X8_append_42 1 k3 w x s h) else (if 126 < s then (g_X8_append_42 1 k3 w x s h) else (g_X8_append_38 1 k3 w x s h)))) = k3 w (x + (-8)) h' ∧ TC (f1 s T) h' ∧ zsm (fun a k => (a = 1 ∧ k = 1) ∨ a = 2) h h' := by
  have l := I.1
  have e42 : tak s = false → ∃ h', g_X8_append_42 1 k3 w x s h = k3 w (x + (-8)) h' ∧ TC (f1 s T) h' ∧ zsm (fun a k => (a = 1 ∧ k = 1) ∨ a = 2) h h' := by
    intro ht
    refine ⟨h, ?_, ?_, zsm.rf⟩
    · unfold g_X8_append_42 g_X8_append_43
      rw [if_pos rfl]
    · unfold f1
      rw [ht]
      by_cases c : 1000 ≤ T.1
      · rw [if_pos c]; exact K
      · rw [if_neg c]; exact K
  have e38 : tak s = true → ∃ h', g_X8_append_38 1 k3 w x s h = k3 w (x + (-8)) h' ∧ TC (f1 s T) h' ∧ zsm (fun a k => (a = 1 ∧ k = 1) ∨ a = 2) h h' := by
    intro ht
    obtain ⟨c, rfl, hc⟩ := tak_c ht
    unfold g_X8_append_38 g_X8_append_43 f1
    rw [if_neg (by decide), K.1]
    by_cases d : 1000 ≤ T.1
    · refine ⟨h, ?_, ?_, zsm.rf⟩
      · rw [if_pos (by rw [zleL_1000 (by omega)]; exact d)]
      · rw [if_pos d]; exact K
    · have w1 : zsm (fun a k => a = 2 ∧ k = T.1) h (zpi h 2 T.1 (nI c)) := zsm.pi ⟨rfl, rfl⟩
      refine ⟨zpi (zpi h 2 T.1 (nI c)) 1 1 (nI (T.1 + 1)), ?_, ?_, (w1.mono (fun a k z => Or.inr z.1)).tr (zsm.pi (Or.inl ⟨rfl, rfl⟩))⟩
      · rw [if_neg (by rw [zleL_1000 (by omega)]; exact d), zin_t (show T.1 < 1000 by omega) (by omega), zgu_t, zx_nI (by omega), zr_1_0, nar_c c (by omega), zlet_e, (w1 1 1 (by omega)).1, K.1, nI_1, zlet_e]
      · rw [if_neg d, if_pos ht, zx_nI (by omega)]
        refine ⟨zpi_s _ _ _ _, fun k hk => ?_⟩
        have hk : k < T.1 + 1 := hk
        show _ = nI (zu T.2 T.1 c k)
        rw [zpi_r, if_neg (by omega)]
        by_cases z : k = T.1
        · subst z; rw [zu_s, zpi_s]
        · rw [zu_n z, (w1 _ _ (by omega)).1]; exact K.2 k (by omega)
  by_cases c10 : s = 10
  · rw [if_pos c10]
    exact e38 (by unfold tak; rw [decide_eq_true c10]; rfl)
  · rw [if_neg c10]
    by_cases c32 : s < 32
    · rw [if_pos c32]
      exact e42 (by unfold tak; rw [decide_eq_false c10, decide_eq_true c32]; rfl)
    · rw [if_neg c32]
      by_cases c126 : 126 < s
      · rw [if_pos c126]
        exact e42 (by unfold tak; rw [decide_eq_false c10, decide_eq_false c32, decide_eq_true c126]; rfl)
      · rw [if_neg c126]
        exact e38 (by unfold tak; rw [decide_eq_false c10, decide_eq_false c32, decide_eq_false c126]; rfl)
theorem c_app (w : Int64) : ∀ k j n T h, j + k = 8 → k < n → TI T → TC T h → ∃ h', g_X8_append_3 1 n w (shf j) h = some h' ∧ TI (apf w k j T) ∧ TC (apf w k j T) h' ∧ zsm (fun a k => (a = 1 ∧ k = 1) ∨ a = 2) h h' := by
  intro k
  induction k with
  | zero =>
    intro j n T h hj hn I K
    obtain ⟨n, rfl⟩ : ∃ m', n = m' + 1 := ⟨n - 1, by omega⟩
    have : j = 8 := by omega
    subst this
    exact ⟨h, by rw [g_X8_append_3, if_pos (by decide)], I, K, zsm.rf⟩
  | succ k ih =>
    intro j n T h hj hn I K
    obtain ⟨n, rfl⟩ : ∃ m', n = m' + 1 := ⟨n - 1, by omega⟩
    obtain ⟨z1, z2⟩ := shf_step j (by omega)
    obtain ⟨h1, e1, K1, w1⟩ := c_43 (s := sg8 w j) I K (g_X8_append_3 1 n) w (shf j)
    obtain ⟨h2, e2, I2, K2, w2⟩ := ih (j + 1) n (f1 (sg8 w j) T) h1 (by omega) (by omega) (f1_I I) K1
    refine ⟨h2, ?_, I2, K2, w1.tr w2⟩
    rw [g_X8_append_3, if_neg z2, zlet_e]
    refine Eq.trans e1 ?_
    rw [z1]; exact e2
theorem c_append (I : TI T) (K : TC T h) (w : Int64) : ∃ h', g_X8_append h 1 w = some h' ∧ TI (apf w 8 0 T) ∧ TC (apf w 8 0 T) h' ∧ zsm (fun a k => (a = 1 ∧ k = 1) ∨ a = 2) h h' := by
  obtain ⟨h1, e1, I1, K1, w1⟩ := c_app w 8 0 zfu T h (by omega) (by decide) I K
  refine ⟨h1, ?_, I1, K1, w1⟩
  unfold g_X8_append
  have : shf 0 = 56 := by decide
  rw [← this]; exact e1
/-- in the reference -/
theorem m_39 (I : TI T) (K : TF T h) (k8 : Int64 → Int64 → Int64 → Int32 → zH → Option (Int32 × zH)) (a b c w : Int64) {i : Nat} (hi : i < 24) : ∃ h', g_X12_feed_39 139 k8 a b c (nI i) w h = k8 a b c (nI (i + 1)) h' ∧ TF (f1 (sg8 w (i % 8)) T) h' ∧ zsm (fun a k => (a = 139 ∧ k = 1) ∨ a = 140) h h' := by
  have l := I.1
  have es : (((w.toUInt64 >>> ((56 - (8 * (nI i &&& 7))).toInt64.toUInt64 &&& Int64.toUInt64 63)).toInt64) &&& 255).toInt32 = sg8 w (i % 8) := by
    rw [shf_mod i hi, Int64.toInt32_and]; rfl
  unfold g_X12_feed_39
  rw [es, zlet_e, K.1]
  generalize sg8 w (i % 8) = s
  unfold f1
  by_cases d : 1000 ≤ T.1
  · refine ⟨h, ?_, ?_, zsm.rf⟩
    · rw [if_pos (by rw [zleL_1000 (by omega)]; exact d), nI_1]
    · rw [if_pos d]; exact K
  · rw [if_neg (by rw [zleL_1000 (by omega)]; exact d), if_neg d]
    have e93 : tak s = true → ∃ h', g_X12_feed_93 139 k8 a b c (nI i) s h = k8 a b c (nI (i + 1)) h' ∧ TF (if tak s = true then (T.1 + 1, zu T.2 T.1 (zx s)) else T) h' ∧ zsm (fun a k => (a = 139 ∧ k = 1) ∨ a = 140) h h' := by
      intro ht
      rw [if_pos ht]
      obtain ⟨x, rfl, hx⟩ := tak_c ht
      have w1 : zsm (fun a k => a = 140 ∧ k = T.1) h (zpi h 140 T.1 (nI x)) := zsm.pi ⟨rfl, rfl⟩
      refine ⟨zpi (zpi h 140 T.1 (nI x)) 139 1 (nI (T.1 + 1)), ?_, ?_, (w1.mono (fun a k z => Or.inr z.1)).tr (zsm.pi (Or.inl ⟨rfl, rfl⟩))⟩
      · unfold g_X12_feed_93
        rw [K.1, zin_t (show T.1 < 1000 by omega) (by omega), zgu_t, zx_nI (by omega), zr_139_2, zlet_e, (w1 139 1 (by omega)).1, K.1, nI_1, nI_1, zlet_e]
      · rw [zx_nI (by omega)]
        refine ⟨zpi_s _ _ _ _, fun k hk => ?_⟩
        have hk : k < T.1 + 1 := hk
        show _ = nI (zu T.2 T.1 x k)
        rw [zpi_r, if_neg (by omega)]
        by_cases z : k = T.1
        · subst z; rw [zu_s, zpi_s]
        · rw [zu_n z, (w1 _ _ (by omega)).1]; exact K.2 k (by omega)
    by_cases c10 : s = 10
    · rw [if_pos c10]
      exact e93 (by unfold tak; rw [decide_eq_true c10]; rfl)
    · rw [if_neg c10]
      by_cases c32 : s < 32
      · have ht : tak s = false := by unfold tak; rw [decide_eq_false c10, decide_eq_true c32]; rfl
        rw [if_pos c32, ht, nI_1]
        exact ⟨h, rfl, K, zsm.rf⟩
      · rw [if_neg c32]
        by_cases c126 : 126 < s
        · have ht : tak s = false := by unfold tak; rw [decide_eq_false c10, decide_eq_false c32, decide_eq_true c126]; rfl
          rw [if_pos c126, ht, nI_1]
          exact ⟨h, rfl, K, zsm.rf⟩
        · rw [if_neg c126]
          exact e93 (by unfold tak; rw [decide_eq_false c10, decide_eq_false c32, decide_eq_false c126]; rfl)
theorem m_app (a b c : Int64) : ∀ k i n T h, i + k = 24 → k < n → TI T → TF T h → ∃ h', g_X12_feed_8 139 n a b c (nI i) h = some (h'.1 139 1, h') ∧ TI (mpf a b c k i T) ∧ TF (mpf a b c k i T) h' ∧ zsm (fun a k => (a = 139 ∧ k = 1) ∨ a = 140) h h' := by
  intro k
  induction k with
  | zero =>
    intro i n T h hj hn I K
    obtain ⟨n, rfl⟩ : ∃ m', n = m' + 1 := ⟨n - 1, by omega⟩
    have : i = 24 := by omega
    subst this
    exact ⟨h, by rw [g_X12_feed_8, if_pos (by decide)], I, K, zsm.rf⟩
  | succ k ih =>
    intro i n T h hj hn I K
    obtain ⟨n, rfl⟩ : ∃ m', n = m' + 1 := ⟨n - 1, by omega⟩
    obtain ⟨h1, e1, K1, w1⟩ := m_39 I K (g_X12_feed_8 139 n) a b c (if i < 8 then a else if i < 16 then b else c) (show i < 24 by omega)
    obtain ⟨h2, e2, I2, K2, w2⟩ := ih (i + 1) n _ h1 (by omega) (by omega) (f1_I I) K1
    refine ⟨h2, ?_, I2, K2, w1.tr w2⟩
    rw [g_X12_feed_8, if_neg (by rw [zleL_24 (by omega)]; omega)]
    refine Eq.trans ?_ (e1.trans e2)
    simp only [zleL_8 (show i < 2147483648 by omega), zleL_16 (show i < 2147483648 by omega)]
    by_cases c8 : i < 8
    · rw [if_neg (by omega), if_pos c8]
    · rw [if_pos (by omega), if_neg c8]
      by_cases c16 : i < 16
      · rw [if_neg (by omega), if_pos c16]
      · rw [if_pos (by omega), if_neg c16]
def zfZ (Z : zZ) (T : zTp) : zZ := (zg Z, zy Z, zhd Z, zmk Z, T, znm Z)
theorem ok_feed (H : Rel h) (a b c : Int64) : OKw h (g_X11_feed h 0 a b c) (fun h => g_X12_feed h 139 a b c) := by
  refine okw H (fun R S pc pS Z I C M => ?_)
  obtain ⟨h1, e1, I1, K1, w1⟩ := c_append I.ti C.tc a
  obtain ⟨h2, e2, I2, K2, w2⟩ := c_append I1 K1 b
  obtain ⟨h3, e3, I3, K3, w3⟩ := c_append I2 K2 c
  have w := (w1.tr w2).tr w3
  rw [← mpf_all] at K3 I3
  generalize hT : mpf a b c 24 0 (ztp Z) = T' at K3 I3
  obtain ⟨⟨q1, q2, q3, q4, q5, q6, q7, q8, q9, q10⟩, s, p⟩ := C
  refine ⟨nI T'.1, h3, S, pc, pS, zfZ Z T', ?_, ⟨⟨q1.same3 w (fun a b _ _ => by omega), q2.same w (fun k => by omega) (fun k _ => by omega), fun k hk => ?_, fun p hp => ?_, q5.same w (fun a b _ _ => by omega), q6.same w (fun a k _ _ => by omega), q7.same w (fun k => by omega), fun m hm => ?_, K3.1, K3.2⟩, s.same w (fun a b _ _ => by omega), p.same w (fun a k _ _ => by omega)⟩, w.mono (fun a k z => by unfold Alo; omega), fun M => ?_⟩
  · unfold g_X11_feed
    rw [zr_0_0, e1, zbind_s, e2, zbind_s, e3, zbind_s, K3.1]
  · rw [(w 9 k (by omega)).1]; exact q3 k hk
  · rw [(w 4 p (by omega)).2]; exact q4 p hp
  · obtain ⟨a1, a2⟩ := q8 m hm
    exact ⟨by rw [(w _ _ (by omega)).1]; exact a1, fun z => ⟨(a2 z).1.same w (fun a b _ _ => by omega), (a2 z).2.1.same w (fun a k _ _ => by omega), (a2 z).2.2.same w (fun k => by omega)⟩⟩
  · obtain ⟨h4, e4, I4, K4, w4⟩ := m_app a b c 24 0 zfu (ztp Z) (zpi h3 139 0 0) (by omega) (by decide) I.ti ⟨M.t1, M.t2⟩
    rw [hT] at K4
    obtain ⟨⟨r1, r2, r3, r4, r6, r7, r8, r9, r10⟩, s, p, m0⟩ := M
    obtain ⟨i1, i2, i3, j1, j2, j3, j4, j5, j6, j7⟩ := I
    refine ⟨h4, ?_, ⟨i1, i2, i3, j1, j2, j3, j4, I3.1, I3.2, j7⟩, ⟨⟨r1.same w4 (fun a b _ _ => by omega), r2.same w4 (fun a k _ _ => by omega), fun k hk => ?_, fun p hp => ?_, r6.same w4 (fun a k _ _ => by omega), r7.same w4 (fun a k _ _ => by omega), fun m hm => ?_, K4.1, K4.2⟩, s.same w4 (fun b => by omega), p.same w4 (by omega) (fun k => by omega), m0.same w4 (fun k => by omega)⟩, w4.mono (fun a k z => by unfold Ahi; omega)⟩
    · show g_X12_feed h3 139 a b c = _
      unfold g_X12_feed
      rw [zlet_e, ← K4.1]; exact e4
    · rw [(w4 _ _ (by omega)).1]; exact r3 k hk
    · rw [(w4 _ _ (by omega)).2]; exact r4 p hp
    · obtain ⟨b1, b2⟩ := r8 m hm
      exact ⟨by rw [(w4 _ _ (by omega)).1]; exact b1, fun z => ⟨(b2 z).1.same w4 (fun k => by omega), (b2 z).2.1.same w4 (fun a k _ _ => by omega), (b2 z).2.2.same w4 (fun a k _ _ => by omega)⟩⟩
end N19
