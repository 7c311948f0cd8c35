/-! reading: lines of laws -/
section N6
variable {T : zTp} {q q1 : Nat} {h h' hc hm hc1 hm1 : zH} {A : Nat → Nat → Prop} {D : zDr}
theorem lrl_le (T : zTp) : ∀ k q fs, q ≤ T.1 → q ≤ (lrd T k q fs).2.1 ∧ (lrd T k q fs).2.1 ≤ T.1 := by
  intro k
  induction k with
  | zero => intro q fs hq; exact ⟨Nat.le_refl _, hq⟩
  | succ k ih =>
    intro q fs hq
    have tp := tx_prop (T := T) hq
    rw [lrd]
    split
    · have := ih (tx T q) (lst (tc T q) (tn T q) fs).2 tp.2.1
      exact ⟨by omega, this.2⟩
    · exact ⟨Nat.le_refl _, hq⟩
theorem l_grows (I : TI T) (J : DI D) (K1 : CT T q hc) (C : DCd D q hc) (K2 : MT T q hm) (M : DMd D q hm) (ht : tc T q = 20) : JL T q hc hm (clin hc) (g_X12_readsLaw hm 139 0) := by
  have hq := K1.2.1
  have l := I.1
  have hlt := tc0 hq (by omega)
  have tp := tx_prop (T := T) hq
  have e0 : g_X6_readLine hc 13 = g_X6_readGrows hc 13 := by rw [rl_k K1, ht]; rfl
  have ho : onc D 3 = (rg (dR D)).isSome := rfl
  have z14 : zR 14 6 = 21 ∧ zR 13 4 = 24 := by decide +kernel
  cases hd : rg (dR D) with
  | some f0 =>
    have x1 := c_onceY I K1 C (i := 3) (by decide) ht (by rw [ho, hd]; rfl)
    refine JL.fl I hq (by decide) (by decide) zsm.rf (x1.go (fun h' z => by unfold g_X6_readGrows; rw [z]; rfl)) e0 zsm.rf ((m_failb K2 3).go (fun h' z => ?_))
    obtain ⟨len, m1, m2, m3, m4⟩ := M.2.2.2.2
    have m5 : DLm (rg (dR D)) hm 2 len := m3
    rw [hd] at m5
    obtain ⟨b, rc, fr, v, a1, a2, a3, a4, a5, a6, a7⟩ := m5
    have := a2.ne a3
    unfold g_X12_readsLaw
    rw [show ((2 : Int32) + 0) = nI 2 from rfl, zin_t (by decide) (by decide), zgu_t, zgu_t, zx_nI (by decide), zr_139_18, zr_139_19, a5, a6, if_neg (by rw [znI_le (by omega) (by omega)]; omega)]
    exact z
  | none =>
    obtain ⟨len, c1, c2, c3, c4⟩ := C.2.2.2.2
    obtain ⟨lem, d1, d2, d3, d4⟩ := M.2.2.2.2
    obtain ⟨h1, m, e1, X1, m1, m2, m3, w1⟩ := c_onceN I K1 C (i := 3) (by decide) ht (by rw [ho, hd]; rfl)
    have k7 : h1.1 21 7 = nI len := by rw [(w1 _ _ (by unfold AT1; omega)).1]; exact c2
    have w2 : zsm (fun a k => a = 21 ∧ k = 8) h1 (zpi h1 21 8 (nI len)) := zsm.pi ⟨rfl, rfl⟩
    have X2 : CT T (tx T q) (zpi h1 21 8 (nI len)) := X1.vl (t := 21) (by decide) _ _
    have u2 : zsm AWc hc (zpi h1 21 8 (nI len)) := (w1.mono (fun a k z => by unfold AT1 at z; unfold AWc; omega)).tr (w2.mono (fun a k z => by unfold AWc; omega))
    obtain ⟨g1, f1, Y1, v1⟩ := e_next I K2
    have k21 : g1.1 139 21 = nI (1000 + lem) := by rw [(v1 _ _ (by unfold AM1; omega)).1]; exact d2
    have v2 : zsm (fun a k => a = 149 ∧ k = 2) g1 (zpi g1 149 2 (nI (1000 + lem))) := zsm.pi ⟨rfl, rfl⟩
    have Y2 : MT T (tx T q) (zpi g1 149 2 (nI (1000 + lem))) := Y1.same v2 (fun k _ _ => by omega) (fun k => by omega)
    have t2 : zsm AWm hm (zpi g1 149 2 (nI (1000 + lem))) := (v1.mono (fun a k z => by unfold AM1 at z; unfold AWm; omega)).tr (v2.mono (fun a k z => by unfold AWm; omega))
    have m5 : DLm (rg (dR D)) hm 2 lem := d3
    rw [hd] at m5
    have ec : g_X6_readGrows hc 13 = (g_X0_readLaw (zpi h1 21 8 (nI len)) 24).bind fun v_4 => zlet (zpi v_4.2 21 9 (v_4.2.1 21 7)) fun h_5 => if v_4.1 = 0 then (some (true, h_5)) else ((g_X4_fail_c5 h_5 13 v_4.1).bind fun v_7 => if (zb v_7.1) = 0 then (some (false, v_7.2)) else (some (true, v_7.2))) := by
      unfold g_X6_readGrows
      rw [e1, zbind_s, zb_t, if_neg (by decide), rd13.2.1, z14.1, z14.2, k7, zlet_e]
    have em : g_X12_readsLaw hm 139 0 = (g_X12_reads (zpi g1 149 2 (nI (1000 + lem))) 139).bind fun v_7 => if (zb v_7.1) = 0 then (some (false, v_7.2)) else (some (true, zpi v_7.2 150 2 (v_7.2.1 139 21))) := by
      unfold g_X12_readsLaw
      rw [show ((2 : Int32) + 0) = nI 2 from rfl, zin_t (by decide) (by decide), zgu_t, zgu_t, zx_nI (by decide), zr_139_18, zr_139_19, m5.1, m5.2, if_pos (Int32.le_refl _), f1, zbind_s, zgu_t, k21, zlet_e]; rfl
    have lr := lrl_le T 1001 (tx T q) [fr0 0] tp.2.1
    have lr : tx T q ≤ (lrl T (tx T q)).2.1 ∧ (lrl T (tx T q)).2.1 ≤ T.1 := lr
    rcases e_readLaw I X2 (b := len) (by omega) (by rw [(w2 _ _ (by omega)).1]; exact k7) with ⟨c, h3, cc1, b1, b2, b3, b4⟩ | ⟨h3, f, v, cc', b1, b2, b3, b4, b5, b6, b7, b8, b9, b10⟩
    · rcases e_readsM I Y2 (B := lem) (by omega) (by rw [(v2 _ _ (by omega)).1]; exact k21) with ⟨c', g3, cc2, p1, p2, p3, p4⟩ | ⟨g3, f, v, rc', p1, p2, p3, p4, p5, p6, p7⟩
      · have ecc : c' = c := by omega
        subst ecc
        have w4 : zsm (fun a k => a = 21 ∧ k = 9) h3 (zpi h3 21 9 (h3.1 21 7)) := zsm.pi ⟨rfl, rfl⟩
        have u4 : zsm AWc hc (zpi h3 21 9 (h3.1 21 7)) := (u2.tr (b4.mono (fun a k z => by unfold ALx ALr AT1 at z; unfold AWc; omega))).tr (w4.mono (fun a k z => by unfold AWc; omega))
        have x1 := c_failz rd13 (b3.vl (t := 21) (by decide) 9 (h3.1 21 7)) c'
        refine JL.fl I lr.2 (by omega) (by omega) u4 (x1.go (fun h' z => ?_)) e0 (t2.tr (p4.mono (fun a k z => by unfold ARr AR1 AR2 AM1 at z; unfold AWm; omega))) (⟨g3, ?_, p3, zsm.rf⟩ : MF _ c' g3 _)
        · rw [ec, b2, zbind_s, zlet_e]
          have : ¬ nI c' = 0 := by rw [zeq_0 (by omega)]; omega
          simp only [if_neg this]
          exact z
        · rw [em, p2]; rfl
      · rw [b1] at p1; omega
    · rcases e_readsM I Y2 (B := lem) (by omega) (by rw [(v2 _ _ (by omega)).1]; exact k21) with ⟨c', g3, cc2, p1, p2, p3, p4⟩ | ⟨g3, f', v', rc', p1, p2, p3, p4, p5, p6, p7⟩
      · rw [b1] at p1; omega
      · rw [b2] at p2
        have eff : f = f' := (List.cons.inj p2).1
        subst eff
        have evv : v = v' := by rw [b3] at p3; exact Option.some.inj p3
        subst evv
        have w4 : zsm (fun a k => a = 21 ∧ k = 9) h3 (zpi h3 21 9 (nI (len + cc'.length))) := zsm.pi ⟨rfl, rfl⟩
        have er : g_X6_readLine hc 13 = some (true, zpi h3 21 9 (nI (len + cc'.length))) := by
          rw [e0, ec, b4, zbind_s, b8, zlet_e]; rfl
        have X4 : CT T (lrl T (tx T q)).2.1 (zpi h3 21 9 (nI (len + cc'.length))) := b5.vl (t := 21) (by decide) _ _
        have wa : zsm (fun a k => AT1 a k ∨ (a = 13 ∧ k = 5) ∨ (a = 22 ∧ len ≤ k) ∨ (a = 21 ∧ (k = 7 ∨ k = 8 ∨ k = 9)) ∨ a = 25 ∨ (a = 24 ∧ 3 ≤ k)) hc (zpi h3 21 9 (nI (len + cc'.length))) := (((w1.mono (fun a k z => by unfold AT1 at z ⊢; omega)).tr (w2.mono (fun a k z => by omega))).tr (b6.mono (fun a k z => by unfold ALx ALr AT1 at z; unfold AT1; omega))).tr (w4.mono (fun a k z => by omega))
        have u4 : zsm AWc hc (zpi h3 21 9 (nI (len + cc'.length))) := wa.mono (fun a k z => by unfold AT1 at z; unfold AWc; omega)
        by_cases c11 : tc T (lrl T (tx T q)).2.1 = 11
        · rcases p6 with ⟨_, p8, p9, p10⟩ | ⟨z, _⟩
          · obtain ⟨h5, e5, K5, w5⟩ := c_takeY rd13 I X4 c11
            have e5 : g_X4_take_c5 (zpi h3 21 9 (nI (len + cc'.length))) 13 11 = some (true, h5) := e5
            have tp2 := tx_prop (T := T) lr.2
            have wb : zsm (fun a k => AT1 a k ∨ (a = 13 ∧ k = 5) ∨ (a = 22 ∧ len ≤ k) ∨ (a = 21 ∧ (k = 7 ∨ k = 8 ∨ k = 9)) ∨ a = 25 ∨ (a = 24 ∧ 3 ≤ k)) hc h5 := wa.tr (w5.mono (fun a k z => Or.inl z))
            have v4 : zsm (fun a k => a = 150 ∧ k = 2) g3 (zpi g3 150 2 (nI (1000 + lem + rc'.length))) := zsm.pi ⟨rfl, rfl⟩
            have vb : zsm (fun a k => AM1 a k ∨ (a = 139 ∧ (k = 9 ∨ k = 21)) ∨ a = 152 ∨ a = 153 ∨ (a = 151 ∧ 1000 + lem ≤ k) ∨ ((a = 149 ∨ a = 150) ∧ k = 2)) hm (zpi g3 150 2 (nI (1000 + lem + rc'.length))) := (((v1.mono (fun a k z => Or.inl z)).tr (v2.mono (fun a k z => by omega))).tr (p7.mono (fun a k z => by unfold ARr AR1 AR2 AM1 at z; unfold AM1; omega))).tr (v4.mono (fun a k z => by omega))
            have hne : ¬ tx T (lrl T (tx T q)).2.1 ≤ q := by omega
            refine Or.inr ⟨((rn (dR D), rk (dR D), ra (dR D), re (dR D), rh (dR D), rl (dR D), ry (dR D), rb (dR D), some (fun a b c d => fv f v (a, b, c, d)), rs (dR D)), dnm D, dgr D, don D), tx T (lrl T (tx T q)).2.1, h5, zpi g3 150 2 (nI (1000 + lem + rc'.length)), by omega, J, ?_, K5, ?_, u4.tr (w5.mono (fun a k z => by unfold AT1 at z; unfold AWc; omega)), ?_, p9.same v4 (fun k _ _ => by omega) (fun k => by omega), ?_, vb.mono (fun a k z => by unfold AM1 at z; unfold AWm; omega)⟩
            · unfold clin
              rw [er, zbind_s, zb_t, if_neg (by decide), e5, zbind_s]
            · obtain ⟨⟨a1, a2, a3, a4, a5, a6, a7, a8⟩, r2, r3, -, -⟩ := C
              refine ⟨⟨by rw [(wb _ _ (by unfold AT1; omega)).1]; exact a1, by rw [(wb _ _ (by unfold AT1; omega)).1]; exact a2, by rw [(wb _ _ (by unfold AT1; omega)).1]; exact a3, by rw [(wb _ _ (by unfold AT1; omega)).1]; exact a4, fun p hp => by rw [(wb _ _ (by unfold AT1; omega)).1]; exact a5 p hp, fun p hp => by rw [(wb _ _ (by unfold AT1; omega)).1]; exact a6 p hp, fun p hp => by rw [(wb _ _ (by unfold AT1; omega)).1]; exact a7 p hp, fun p hp => by rw [(wb _ _ (by unfold AT1; omega)).1]; exact a8 p hp⟩, fun k hk => by rw [(wb _ _ (by unfold AT1; omega)).1]; exact r2 k hk, fun p hp => by rw [(wb _ _ (by unfold AT1; omega)).2]; exact r3 p hp, ⟨m, m1, ?_, fun i hi => ?_⟩, len + cc'.length, by omega, ?_, ⟨len, cc', fv f v, rfl, b7, Nat.le_refl _, ?_, ?_, ?_⟩, (c4.same (wb _ _ (by unfold AT1; omega)).1 (wb _ _ (by unfold AT1; omega)).1 (fun k hk => (wb _ _ (by unfold AT1; omega)).1)).up (by omega)⟩
              · rw [(w5 _ _ (by unfold AT1; omega)).1, (w4 _ _ (by omega)).1, (b6 _ _ (by unfold ALx ALr AT1; omega)).1, (w2 _ _ (by omega)).1]; exact m2
              · rw [m3 i hi]
                unfold onc
                by_cases ci : i = 3
                · rw [if_pos ci]; rw [if_pos ci]; rfl
                · rw [if_neg ci]; rw [if_neg ci, if_neg ci]
              · rw [(w5 _ _ (by unfold AT1; omega)).1, (w4 _ _ (by omega)).1]; exact b8
              · rw [(w5 _ _ (by unfold AT1; omega)).1, (w4 _ _ (by omega)).1, (b6 _ _ (by unfold ALx ALr AT1; omega)).1, zpi_s]
              · rw [(w5 _ _ (by unfold AT1; omega)).1, zpi_s]
              · intro j hj
                rw [(w5 _ _ (by unfold AT1; omega)).1, (w4 _ _ (by omega)).1]; exact b9 j hj
            · rw [em, p8, zbind_s, zb_t, if_neg (by decide), p10.1]
            · obtain ⟨⟨a1, a2, a3, a4, a5, a6, a7, a8⟩, r2, r3, ⟨mm, n1, n2, n3⟩, -⟩ := M
              refine ⟨⟨by rw [(vb _ _ (by unfold AM1; omega)).1]; exact a1, by rw [(vb _ _ (by unfold AM1; omega)).1]; exact a2, by rw [(vb _ _ (by unfold AM1; omega)).1]; exact a3, by rw [(vb _ _ (by unfold AM1; omega)).1]; exact a4, fun p hp => by rw [(vb _ _ (by unfold AM1; omega)).1]; exact a5 p hp, fun p hp => by rw [(vb _ _ (by unfold AM1; omega)).1]; exact a6 p hp, fun p hp => by rw [(vb _ _ (by unfold AM1; omega)).1]; exact a7 p hp, fun p hp => by rw [(vb _ _ (by unfold AM1; omega)).1]; exact a8 p hp⟩, fun k hk => ⟨by rw [(vb _ _ (by unfold AM1; omega)).1]; exact (r2 k hk).1, by rw [(vb _ _ (by unfold AM1; omega)).1]; exact (r2 k hk).2⟩, fun p hp => by rw [(vb _ _ (by unfold AM1; omega)).2]; exact r3 p hp, ⟨mm, n1, by rw [(vb _ _ (by unfold AM1; omega)).1]; exact n2, n3⟩, lem + rc'.length, by omega, ?_, ⟨lem, rc', f, v, rfl, p4, b3, Nat.le_refl _, ?_, ?_, ?_⟩, (d4.same (vb _ _ (by unfold AM1; omega)).1 (vb _ _ (by unfold AM1; omega)).1 (fun k hk => (vb _ _ (by unfold AM1; omega)).1)).up (by omega)⟩
              · rw [(v4 _ _ (by omega)).1, p10.1, show 1000 + (lem + rc'.length) = 1000 + lem + rc'.length by omega]
              · rw [(v4 _ _ (by omega)).1, (p7 _ _ (by unfold ARr AR1 AR2 AM1; omega)).1, zpi_s]
              · rw [zpi_s]
              · intro j hj
                rw [(v4 _ _ (by omega)).1]; exact p10.2 j hj
          · exact absurd c11 z
        · rcases p6 with ⟨z, _⟩ | ⟨_, p8, p9⟩
          · exact absurd z c11
          · obtain ⟨h5, e5, k5, w5⟩ := c_takeN rd13 X4 c11 (by decide)
            have e5 : g_X4_take_c5 (zpi h3 21 9 (nI (len + cc'.length))) 13 11 = some (false, h5) := e5
            refine Or.inl ⟨1 + 16 * (lrl T (tx T q)).2.1, h5, g3, by omega, by omega, ?_, k5, u4.tr (w5.mono (fun a k z => av_wc z)), ?_, p9, t2.tr (p7.mono (fun a k z => by unfold ARr AR1 AR2 AM1 at z; unfold AWm; omega))⟩
            · unfold clin
              rw [er, zbind_s, zb_t, if_neg (by decide), e5, zbind_s]
            · rw [em, p8]; rfl
theorem l_eases (I : TI T) (J : DI D) (K1 : CT T q hc) (C : DCd D q hc) (K2 : MT T q hm) (M : DMd D q hm) (ht : tc T q = 21) : JL T q hc hm (clin hc) (g_X12_readsLaw hm 139 1) := by
  have hq := K1.2.1
  have l := I.1
  have hlt := tc0 hq (by omega)
  have tp := tx_prop (T := T) hq
  have e0 : g_X6_readLine hc 13 = g_X6_readEases hc 13 := by rw [rl_k K1, ht]; rfl
  have ho : onc D 4 = (rs (dR D)).isSome := rfl
  have z14 : zR 14 6 = 21 ∧ zR 13 4 = 24 := by decide +kernel
  cases hd : rs (dR D) with
  | some f0 =>
    have x1 := c_onceY I K1 C (i := 4) (by decide) ht (by rw [ho, hd]; rfl)
    refine JL.fl I hq (by decide) (by decide) zsm.rf (x1.go (fun h' z => by unfold g_X6_readEases; rw [z]; rfl)) e0 zsm.rf ((m_failb K2 3).go (fun h' z => ?_))
    obtain ⟨len, m1, m2, m3, m4⟩ := M.2.2.2.2
    have m5 : DLm (rs (dR D)) hm 3 len := m4
    rw [hd] at m5
    obtain ⟨b, rc, fr, v, a1, a2, a3, a4, a5, a6, a7⟩ := m5
    have := a2.ne a3
    unfold g_X12_readsLaw
    rw [show ((2 : Int32) + 1) = nI 3 from rfl, zin_t (by decide) (by decide), zgu_t, zgu_t, zx_nI (by decide), zr_139_18, zr_139_19, a5, a6, if_neg (by rw [znI_le (by omega) (by omega)]; omega)]
    exact z
  | none =>
    obtain ⟨len, c1, c2, c3, c4⟩ := C.2.2.2.2
    obtain ⟨lem, d1, d2, d3, d4⟩ := M.2.2.2.2
    obtain ⟨h1, m, e1, X1, m1, m2, m3, w1⟩ := c_onceN I K1 C (i := 4) (by decide) ht (by rw [ho, hd]; rfl)
    have k7 : h1.1 21 7 = nI len := by rw [(w1 _ _ (by unfold AT1; omega)).1]; exact c2
    have w2 : zsm (fun a k => a = 21 ∧ k = 10) h1 (zpi h1 21 10 (nI len)) := zsm.pi ⟨rfl, rfl⟩
    have X2 : CT T (tx T q) (zpi h1 21 10 (nI len)) := X1.vl (t := 21) (by decide) _ _
    have u2 : zsm AWc hc (zpi h1 21 10 (nI len)) := (w1.mono (fun a k z => by unfold AT1 at z; unfold AWc; omega)).tr (w2.mono (fun a k z => by unfold AWc; omega))
    obtain ⟨g1, f1, Y1, v1⟩ := e_next I K2
    have k21 : g1.1 139 21 = nI (1000 + lem) := by rw [(v1 _ _ (by unfold AM1; omega)).1]; exact d2
    have v2 : zsm (fun a k => a = 149 ∧ k = 3) g1 (zpi g1 149 3 (nI (1000 + lem))) := zsm.pi ⟨rfl, rfl⟩
    have Y2 : MT T (tx T q) (zpi g1 149 3 (nI (1000 + lem))) := Y1.same v2 (fun k _ _ => by omega) (fun k => by omega)
    have t2 : zsm AWm hm (zpi g1 149 3 (nI (1000 + lem))) := (v1.mono (fun a k z => by unfold AM1 at z; unfold AWm; omega)).tr (v2.mono (fun a k z => by unfold AWm; omega))
    have m5 : DLm (rs (dR D)) hm 3 lem := d4
    rw [hd] at m5
    have ec : g_X6_readEases hc 13 = (g_X0_readLaw (zpi h1 21 10 (nI len)) 24).bind fun v_4 => zlet (zpi v_4.2 21 11 (v_4.2.1 21 7)) fun h_5 => if v_4.1 = 0 then (some (true, h_5)) else ((g_X4_fail_c5 h_5 13 v_4.1).bind fun v_7 => if (zb v_7.1) = 0 then (some (false, v_7.2)) else (some (true, v_7.2))) := by
      unfold g_X6_readEases
      rw [e1, zbind_s, zb_t, if_neg (by decide), rd13.2.1, z14.1, z14.2, k7, zlet_e]
    have em : g_X12_readsLaw hm 139 1 = (g_X12_reads (zpi g1 149 3 (nI (1000 + lem))) 139).bind fun v_7 => if (zb v_7.1) = 0 then (some (false, v_7.2)) else (some (true, zpi v_7.2 150 3 (v_7.2.1 139 21))) := by
      unfold g_X12_readsLaw
      rw [show ((2 : Int32) + 1) = nI 3 from rfl, zin_t (by decide) (by decide), zgu_t, zgu_t, zx_nI (by decide), zr_139_18, zr_139_19, m5.1, m5.2, if_pos (Int32.le_refl _), f1, zbind_s, zgu_t, k21, zlet_e]; rfl
    have lr := lrl_le T 1001 (tx T q) [fr0 0] tp.2.1
    have lr : tx T q ≤ (lrl T (tx T q)).2.1 ∧ (lrl T (tx T q)).2.1 ≤ T.1 := lr
    rcases e_readLaw I X2 (b := len) (by omega) (by rw [(w2 _ _ (by omega)).1]; exact k7) with ⟨c, h3, cc1, b1, b2, b3, b4⟩ | ⟨h3, f, v, cc', b1, b2, b3, b4, b5, b6, b7, b8, b9, b10⟩
    · rcases e_readsM I Y2 (B := lem) (by omega) (by rw [(v2 _ _ (by omega)).1]; exact k21) with ⟨c', g3, cc2, p1, p2, p3, p4⟩ | ⟨g3, f, v, rc', p1, p2, p3, p4, p5, p6, p7⟩
      · have ecc : c' = c := by omega
        subst ecc
        have w4 : zsm (fun a k => a = 21 ∧ k = 11) h3 (zpi h3 21 11 (h3.1 21 7)) := zsm.pi ⟨rfl, rfl⟩
        have u4 : zsm AWc hc (zpi h3 21 11 (h3.1 21 7)) := (u2.tr (b4.mono (fun a k z => by unfold ALx ALr AT1 at z; unfold AWc; omega))).tr (w4.mono (fun a k z => by unfold AWc; omega))
        have x1 := c_failz rd13 (b3.vl (t := 21) (by decide) 11 (h3.1 21 7)) c'
        refine JL.fl I lr.2 (by omega) (by omega) u4 (x1.go (fun h' z => ?_)) e0 (t2.tr (p4.mono (fun a k z => by unfold ARr AR1 AR2 AM1 at z; unfold AWm; omega))) (⟨g3, ?_, p3, zsm.rf⟩ : MF _ c' g3 _)
        · rw [ec, b2, zbind_s, zlet_e]
          have : ¬ nI c' = 0 := by rw [zeq_0 (by omega)]; omega
          simp only [if_neg this]
          exact z
        · rw [em, p2]; rfl
      · rw [b1] at p1; omega
    · rcases e_readsM I Y2 (B := lem) (by omega) (by rw [(v2 _ _ (by omega)).1]; exact k21) with ⟨c', g3, cc2, p1, p2, p3, p4⟩ | ⟨g3, f', v', rc', p1, p2, p3, p4, p5, p6, p7⟩
      · rw [b1] at p1; omega
      · rw [b2] at p2
        have eff : f = f' := (List.cons.inj p2).1
        subst eff
        have evv : v = v' := by rw [b3] at p3; exact Option.some.inj p3
        subst evv
        have w4 : zsm (fun a k => a = 21 ∧ k = 11) h3 (zpi h3 21 11 (nI (len + cc'.length))) := zsm.pi ⟨rfl, rfl⟩
        have er : g_X6_readLine hc 13 = some (true, zpi h3 21 11 (nI (len + cc'.length))) := by
          rw [e0, ec, b4, zbind_s, b8, zlet_e]; rfl
        have X4 : CT T (lrl T (tx T q)).2.1 (zpi h3 21 11 (nI (len + cc'.length))) := b5.vl (t := 21) (by decide) _ _
        have wa : zsm (fun a k => AT1 a k ∨ (a = 13 ∧ k = 5) ∨ (a = 22 ∧ len ≤ k) ∨ (a = 21 ∧ (k = 7 ∨ k = 10 ∨ k = 11)) ∨ a = 25 ∨ (a = 24 ∧ 3 ≤ k)) hc (zpi h3 21 11 (nI (len + cc'.length))) := (((w1.mono (fun a k z => by unfold AT1 at z ⊢; omega)).tr (w2.mono (fun a k z => by omega))).tr (b6.mono (fun a k z => by unfold ALx ALr AT1 at z; unfold AT1; omega))).tr (w4.mono (fun a k z => by omega))
        have u4 : zsm AWc hc (zpi h3 21 11 (nI (len + cc'.length))) := wa.mono (fun a k z => by unfold AT1 at z; unfold AWc; omega)
        by_cases c11 : tc T (lrl T (tx T q)).2.1 = 11
        · rcases p6 with ⟨_, p8, p9, p10⟩ | ⟨z, _⟩
          · obtain ⟨h5, e5, K5, w5⟩ := c_takeY rd13 I X4 c11
            have e5 : g_X4_take_c5 (zpi h3 21 11 (nI (len + cc'.length))) 13 11 = some (true, h5) := e5
            have tp2 := tx_prop (T := T) lr.2
            have wb : zsm (fun a k => AT1 a k ∨ (a = 13 ∧ k = 5) ∨ (a = 22 ∧ len ≤ k) ∨ (a = 21 ∧ (k = 7 ∨ k = 10 ∨ k = 11)) ∨ a = 25 ∨ (a = 24 ∧ 3 ≤ k)) hc h5 := wa.tr (w5.mono (fun a k z => Or.inl z))
            have v4 : zsm (fun a k => a = 150 ∧ k = 3) g3 (zpi g3 150 3 (nI (1000 + lem + rc'.length))) := zsm.pi ⟨rfl, rfl⟩
            have vb : zsm (fun a k => AM1 a k ∨ (a = 139 ∧ (k = 9 ∨ k = 21)) ∨ a = 152 ∨ a = 153 ∨ (a = 151 ∧ 1000 + lem ≤ k) ∨ ((a = 149 ∨ a = 150) ∧ k = 3)) hm (zpi g3 150 3 (nI (1000 + lem + rc'.length))) := (((v1.mono (fun a k z => Or.inl z)).tr (v2.mono (fun a k z => by omega))).tr (p7.mono (fun a k z => by unfold ARr AR1 AR2 AM1 at z; unfold AM1; omega))).tr (v4.mono (fun a k z => by omega))
            have hne : ¬ tx T (lrl T (tx T q)).2.1 ≤ q := by omega
            refine Or.inr ⟨((rn (dR D), rk (dR D), ra (dR D), re (dR D), rh (dR D), rl (dR D), ry (dR D), rb (dR D), rg (dR D), some (fun a b c d => fv f v (a, b, c, d))), dnm D, dgr D, don D), tx T (lrl T (tx T q)).2.1, h5, zpi g3 150 3 (nI (1000 + lem + rc'.length)), by omega, J, ?_, K5, ?_, u4.tr (w5.mono (fun a k z => by unfold AT1 at z; unfold AWc; omega)), ?_, p9.same v4 (fun k _ _ => by omega) (fun k => by omega), ?_, vb.mono (fun a k z => by unfold AM1 at z; unfold AWm; omega)⟩
            · unfold clin
              rw [er, zbind_s, zb_t, if_neg (by decide), e5, zbind_s]
            · obtain ⟨⟨a1, a2, a3, a4, a5, a6, a7, a8⟩, r2, r3, -, -⟩ := C
              refine ⟨⟨by rw [(wb _ _ (by unfold AT1; omega)).1]; exact a1, by rw [(wb _ _ (by unfold AT1; omega)).1]; exact a2, by rw [(wb _ _ (by unfold AT1; omega)).1]; exact a3, by rw [(wb _ _ (by unfold AT1; omega)).1]; exact a4, fun p hp => by rw [(wb _ _ (by unfold AT1; omega)).1]; exact a5 p hp, fun p hp => by rw [(wb _ _ (by unfold AT1; omega)).1]; exact a6 p hp, fun p hp => by rw [(wb _ _ (by unfold AT1; omega)).1]; exact a7 p hp, fun p hp => by rw [(wb _ _ (by unfold AT1; omega)).1]; exact a8 p hp⟩, fun k hk => by rw [(wb _ _ (by unfold AT1; omega)).1]; exact r2 k hk, fun p hp => by rw [(wb _ _ (by unfold AT1; omega)).2]; exact r3 p hp, ⟨m, m1, ?_, fun i hi => ?_⟩, len + cc'.length, by omega, ?_, (c3.same (wb _ _ (by unfold AT1; omega)).1 (wb _ _ (by unfold AT1; omega)).1 (fun k hk => (wb _ _ (by unfold AT1; omega)).1)).up (by omega), ⟨len, cc', fv f v, rfl, b7, Nat.le_refl _, ?_, ?_, ?_⟩⟩
              · rw [(w5 _ _ (by unfold AT1; omega)).1, (w4 _ _ (by omega)).1, (b6 _ _ (by unfold ALx ALr AT1; omega)).1, (w2 _ _ (by omega)).1]; exact m2
              · rw [m3 i hi]
                unfold onc
                by_cases ci : i = 4
                · rw [if_pos ci]; rw [if_neg (by omega), if_pos ci]; rfl
                · rw [if_neg ci]; simp only [if_neg ci]
              · rw [(w5 _ _ (by unfold AT1; omega)).1, (w4 _ _ (by omega)).1]; exact b8
              · rw [(w5 _ _ (by unfold AT1; omega)).1, (w4 _ _ (by omega)).1, (b6 _ _ (by unfold ALx ALr AT1; omega)).1, zpi_s]
              · rw [(w5 _ _ (by unfold AT1; omega)).1, zpi_s]
              · intro j hj
                rw [(w5 _ _ (by unfold AT1; omega)).1, (w4 _ _ (by omega)).1]; exact b9 j hj
            · rw [em, p8, zbind_s, zb_t, if_neg (by decide), p10.1]
            · obtain ⟨⟨a1, a2, a3, a4, a5, a6, a7, a8⟩, r2, r3, ⟨mm, n1, n2, n3⟩, -⟩ := M
              refine ⟨⟨by rw [(vb _ _ (by unfold AM1; omega)).1]; exact a1, by rw [(vb _ _ (by unfold AM1; omega)).1]; exact a2, by rw [(vb _ _ (by unfold AM1; omega)).1]; exact a3, by rw [(vb _ _ (by unfold AM1; omega)).1]; exact a4, fun p hp => by rw [(vb _ _ (by unfold AM1; omega)).1]; exact a5 p hp, fun p hp => by rw [(vb _ _ (by unfold AM1; omega)).1]; exact a6 p hp, fun p hp => by rw [(vb _ _ (by unfold AM1; omega)).1]; exact a7 p hp, fun p hp => by rw [(vb _ _ (by unfold AM1; omega)).1]; exact a8 p hp⟩, fun k hk => ⟨by rw [(vb _ _ (by unfold AM1; omega)).1]; exact (r2 k hk).1, by rw [(vb _ _ (by unfold AM1; omega)).1]; exact (r2 k hk).2⟩, fun p hp => by rw [(vb _ _ (by unfold AM1; omega)).2]; exact r3 p hp, ⟨mm, n1, by rw [(vb _ _ (by unfold AM1; omega)).1]; exact n2, n3⟩, lem + rc'.length, by omega, ?_, (d3.same (vb _ _ (by unfold AM1; omega)).1 (vb _ _ (by unfold AM1; omega)).1 (fun k hk => (vb _ _ (by unfold AM1; omega)).1)).up (by omega), ⟨lem, rc', f, v, rfl, p4, b3, Nat.le_refl _, ?_, ?_, ?_⟩⟩
              · rw [(v4 _ _ (by omega)).1, p10.1, show 1000 + (lem + rc'.length) = 1000 + lem + rc'.length by omega]
              · rw [(v4 _ _ (by omega)).1, (p7 _ _ (by unfold ARr AR1 AR2 AM1; omega)).1, zpi_s]
              · rw [zpi_s]
              · intro j hj
                rw [(v4 _ _ (by omega)).1]; exact p10.2 j hj
          · exact absurd c11 z
        · rcases p6 with ⟨z, _⟩ | ⟨_, p8, p9⟩
          · exact absurd z c11
          · obtain ⟨h5, e5, k5, w5⟩ := c_takeN rd13 X4 c11 (by decide)
            have e5 : g_X4_take_c5 (zpi h3 21 11 (nI (len + cc'.length))) 13 11 = some (false, h5) := e5
            refine Or.inl ⟨1 + 16 * (lrl T (tx T q)).2.1, h5, g3, by omega, by omega, ?_, k5, u4.tr (w5.mono (fun a k z => av_wc z)), ?_, p9, t2.tr (p7.mono (fun a k z => by unfold ARr AR1 AR2 AM1 at z; unfold AWm; omega))⟩
            · unfold clin
              rw [er, zbind_s, zb_t, if_neg (by decide), e5, zbind_s]
            · rw [em, p8]; rfl
end N6
