/-! years: line by line; both answer alike -/
def AYt : Nat → Nat → Prop := fun a k => AYc a k ∨ (a = 1 ∧ k = 1)
theorem cliny_b {β : Type} (h : zH) (F0 F1 : zH → Option β) : ((g_X10_readLine h 26).bind fun v_7 => if (zb v_7.1) = 0 then F0 v_7.2 else ((g_X4_take_c9 v_7.2 26 11).bind fun v_9 => if (zb v_9.1) = 0 then F0 v_9.2 else F1 v_9.2)) = (cliny h).bind fun v => if (zb v.1) = 0 then F0 v.2 else F1 v.2 := by
  unfold cliny
  cases g_X10_readLine h 26 with
  | none => rfl
  | some v =>
    obtain ⟨b, h1⟩ := v
    cases b with
    | false => rfl
    | true =>
      show ((g_X4_take_c9 h1 26 11).bind fun v_9 => if (zb v_9.1) = 0 then F0 v_9.2 else F1 v_9.2) = ((g_X4_take_c9 h1 26 11).bind fun v_9 => some (v_9.1, v_9.2)).bind fun v => if (zb v.1) = 0 then F0 v.2 else F1 v.2
      rw [zbid]
def RdY (n : Nat) (hc hm : zH) (a b : Option (Int32 × zH)) : Prop :=
  (∃ f hc' hm', 0 < f ∧ f < 20000 ∧ a = some (nI f, hc') ∧ zsm AYt hc hc' ∧ hc'.1 1 1 = 0 ∧ b = some (nI f, hm') ∧ zsm AYm hm hm') ∨
  (∃ Y hc' hm', YI n Y ∧ a = some (0, hc') ∧ YC Y hc' 27 ∧ zsm AYt hc hc' ∧ hc'.1 1 1 = 0 ∧ b = ((g_X12_laysLines hm' 139 5 0).bind fun v_6 => some (0, v_6)) ∧ YM Y hm' 5 ∧ zsm AYm hm hm')
def myr (h : zH) : Option (Int32 × zH) := zgu (zin 5 6) <| zlet (zpi h (zR 139 37) (zx 5) 0) fun h_3 => (g_X12_begins h_3 139).bind fun v_4 => g_X12_years_16 139 zfu v_4
def zyZ (Z : zZ) (Y : zY) : zZ := (zg Z, Y, zhd Z, zmk Z, (0, fun _ => 0), znm Z)
section N18
variable {R : zRp} {S S' : zSt} {pc : Nat} {pS : Nat → zSt} {Z : zZ} {T : zTp} {n q q1 : Nat} {nm : Nat → List Nat} {h h' hc hm hc1 hm1 : zH} {Y Y' : zY}
theorem RdY.tr {a b : Option (Int32 × zH)} (w1 : zsm AYt hc hc1) (w2 : zsm AYm hm hm1) (H : RdY n hc1 hm1 a b) : RdY n hc hm a b := by
  rcases H with ⟨f, hc', hm', a1, a2, a3, a4, a5, a6, a7⟩ | ⟨Y, hc', hm', a1, a2, a3, a4, a5, a6, a7, a8⟩
  · exact Or.inl ⟨f, hc', hm', a1, a2, a3, w1.tr a4, a5, a6, w2.tr a7⟩
  · exact Or.inr ⟨Y, hc', hm', a1, a2, a3, w1.tr a4, a5, a6, a7, w2.tr a8⟩
theorem ly_69 {x : Int32} (e : hc.1 26 3 = x) : g_X4_readTape_c9_69 26 hc = some (x, zpi hc 1 1 0) := by
  unfold g_X4_readTape_c9_69
  rw [rd26.1, zlet_e, zpi_r, if_neg (by decide), e]
theorem y_loop (I : TI T) : ∀ k q Y hc hm f m i, T.1 - q < k → k ≤ f → k ≤ m → i ≤ q → YI n Y → CT T q hc → PN 3 4 n nm hc → YC Y hc 27 → MT T q hm → PNm 0 n nm hm → YM Y hm 5 → hc.1 26 3 = 0 → RdY n hc hm (g_X4_readTape_c9_20 26 f 1 (nI i) hc) (g_X12_years_16 139 m hm) := by
  intro k
  have l := I.1
  induction k with
  | zero => intro q Y hc hm f m i hk; omega
  | succ k ih =>
    intro q Y hc hm f m i hk hn hm' hi HY K1 P1 C K2 P2 M e3
    obtain ⟨f, rfl⟩ : ∃ n', f = n' + 1 := ⟨f - 1, by omega⟩
    obtain ⟨m, rfl⟩ : ∃ m', m = m' + 1 := ⟨m - 1, by omega⟩
    have hq := K1.2.1
    by_cases ht : tc T q = 0
    · have w : zsm (fun a k => a = 1 ∧ k = 1) hc (zpi hc 1 1 0) := zsm.pi ⟨rfl, rfl⟩
      refine Or.inr ⟨Y, zpi hc 1 1 0, hm, HY, ?_, C.same w (fun a k _ _ => by omega), w.mono (fun a k z => Or.inr z), zpi_s _ _ _ _, ?_, M, zsm.rf⟩
      · rw [g_X4_readTape_c9_20]
        by_cases c : (1000 : Int32) ≤ nI i
        · rw [if_pos c, ly_69 e3]
        · rw [if_neg c, if_neg (by decide), rd26.1, K1.2.2.2.2.1, ht, if_pos (by rfl), ly_69 e3]
      · rw [g_X12_years_16, if_pos (by rw [K2.t0]; exact ht)]
    · have hlt := tc0 hq ht
      have htc := tc_lt T q
      obtain ⟨f, rfl⟩ : ∃ n', f = n' + 1 := ⟨f - 1, by omega⟩
      have ea : g_X4_readTape_c9_20 26 (f + 1 + 1) 1 (nI i) hc = (cliny hc).bind fun v => if (zb v.1) = 0 then g_X4_readTape_c9_20 26 (f + 1) 0 (nI i + 1) v.2 else g_X4_readTape_c9_20 26 (f + 1) 1 (nI i + 1) v.2 := by
        rw [g_X4_readTape_c9_20, if_neg (by rw [zleL_1000 (by omega)]; omega), if_neg (by decide), rd26.1, K1.2.2.2.2.1, if_neg (by rw [zeq_0 (by omega)]; exact ht)]
        exact cliny_b hc (fun h => g_X4_readTape_c9_20 26 (f + 1) 0 (nI i + 1) h) (fun h => g_X4_readTape_c9_20 26 (f + 1) 1 (nI i + 1) h)
      have H := y_line I HY K1 P1 C K2 P2 M ht
      rw [ea, g_X12_years_16, if_neg (by rw [K2.t0]; exact ht)]
      rcases H with ⟨c, hc', hm', a1, a2, a3, a4, a5, a6, a7, a8⟩ | ⟨Y', q', hc', hm', a1, a2, a3, a4, a5, a6, a7, a8, a9, a10, a11, a12, a13⟩
      · rw [a3, a6]
        refine Or.inl ⟨c, zpi hc' 1 1 0, hm', a1, a2, ?_, (a5.mono (fun a k z => Or.inl z)).tr (zsm.pi (Or.inr ⟨rfl, rfl⟩)), zpi_s _ _ _ _, ?_, a8⟩
        · show g_X4_readTape_c9_20 26 (f + 1) 0 (nI i + 1) hc' = _
          rw [g_X4_readTape_c9_20]
          by_cases c : (1000 : Int32) ≤ nI i + 1
          · rw [if_pos c, ly_69 a4]
          · rw [if_neg c, if_pos rfl, ly_69 a4]
        · rw [zbind_s, zb_f, if_pos rfl, a7]
      · rw [a3, a9]
        have := ih q' Y' hc' hm' (f + 1) m (i + 1) (by omega) (by omega) (by omega) (by omega) a2 a4 a5 a6 a10 a11 a12 (a7.trans e3)
        refine RdY.tr (a8.mono (fun a k z => Or.inl z)) a13 ?_
        show RdY n hc' hm' (g_X4_readTape_c9_20 26 (f + 1) 1 (nI i + 1) hc') (g_X12_years_16 139 m hm')
        rw [nI_1]
        exact this
theorem r_years (I : TI T) (K : TC T hc) (P1 : PN 3 4 n nm hc) (e1 : hm.1 139 1 = nI T.1) (e2 : ∀ k, k < T.1 → hm.1 140 k = nI (T.2 k)) (P2 : PNm 0 n nm hm) : (∃ f hc' hm', 0 < f ∧ f < 20000 ∧ g_X4_readTape_c9 hc 26 = some (nI f, hc') ∧ zsm ARc hc hc' ∧ hc'.1 1 1 = 0 ∧ myr hm = some (nI f, hm') ∧ zsm ARm hm hm' ∧ hm'.1 139 1 = 0) ∨
    (∃ Y hc' hm', YI n Y ∧ g_X4_readTape_c9 hc 26 = some (0, hc') ∧ YC Y hc' 27 ∧ zsm ARc hc hc' ∧ hc'.1 1 1 = 0 ∧ myr hm = ((g_X12_laysLines hm' 139 5 0).bind fun v_6 => some (0, v_6)) ∧ YM Y hm' 5 ∧ zsm ARm hm hm' ∧ hm'.1 139 1 = 0) := by
  have l := I.1
  have w1 : zsm (fun a k => (a = 27 ∧ k = 1) ∨ (a = 26 ∧ k = 3)) hc (zpi (zpi hc 27 1 0) 26 3 0) := (zsm.pi (Or.inl ⟨rfl, rfl⟩)).tr (zsm.pi (Or.inr ⟨rfl, rfl⟩))
  have C1 : YC yZ0 (zpi (zpi hc 27 1 0) 26 3 0) 27 := ⟨by rw [zpi_r, if_neg (by decide), zpi_s]; rfl, fun k hk => absurd hk (Nat.not_lt_zero k)⟩
  have K1 : TC T (zpi (zpi hc 27 1 0) 26 3 0) := K.same w1 (by omega) (fun k => by omega)
  have z1 : (zpi (zpi hc 27 1 0) 26 3 0).1 26 3 = 0 := zpi_s _ _ _ _
  obtain ⟨h3, a3, K3, w3⟩ := c_first I K1
  have ea : g_X4_readTape_c9 hc 26 = g_X4_readTape_c9_20 26 zfu 1 (nI 0) h3 := by
    unfold g_X4_readTape_c9 g_X10_begin
    rw [zr_26_4, zlet_e, zbind_s, zlet_e, rd26.1, a3, zbind_s]; rfl
  generalize zpi (zpi hc 27 1 0) 26 3 0 = h2 at *
  have C3 : YC yZ0 h3 27 := C1.same w3 (fun a k _ _ => by unfold AT1; omega)
  have z3 : h3.1 26 3 = 0 := by rw [(w3 _ _ (by unfold AT1; omega)).1]; exact z1
  have u3 : zsm ARc hc h3 := (w1.mono (fun a k z => by unfold ARc; omega)).tr (w3.mono (fun a k z => by unfold AT1 at z; unfold ARc; omega))
  have Q1 : PN 3 4 n nm h3 := P1.same u3 (fun k => by unfold ARc; omega) (fun k => by unfold ARc; omega)
  have v1 : zsm (fun a k => a = 164 ∧ k = 5) hm (zpi hm 164 5 0) := zsm.pi ⟨rfl, rfl⟩
  have M1 : YM yZ0 (zpi hm 164 5 0) 5 := ⟨zpi_s _ _ _ _, fun k hk => absurd hk (Nat.not_lt_zero k)⟩
  obtain ⟨g2, b2, Y2, y2, v2⟩ := m_begins (h := zpi hm 164 5 0) I (by rw [(v1 _ _ (by omega)).1]; exact e1) (fun k hk => by rw [(v1 _ _ (by omega)).1]; exact e2 k hk)
  have eb : myr hm = g_X12_years_16 139 zfu g2 := by
    unfold myr
    rw [zil_5 (show 5 < 6 by decide), zgu_t, zr_139_37, zxl_5, zlet_e, b2, zbind_s]
  generalize zpi hm 164 5 0 = g1 at *
  have M2 : YM yZ0 g2 5 := M1.same v2 (fun a k _ _ => by omega)
  have t2 : zsm ARm hm g2 := (v1.mono (B := ARm) (fun a k z => by unfold ARm; omega)).tr (v2.mono (fun a k z => by unfold ARm AWn AWm; omega))
  have Q2 : PNm 0 n nm g2 := (P2.same v1 (fun k => by omega) (fun k => by omega)).same v2 (fun k => by omega) (fun k => by omega)
  rw [ea, eb]
  have hY : ∀ a k, AYm a k → ARm a k := fun a k z => by unfold AYm AVm AM1 at z; unfold ARm AWn AWm; omega
  have hC : ∀ a k, AYt a k → ARc a k := fun a k z => by unfold AYt AYc at z; unfold ARc; omega
  rcases y_loop (n := n) (nm := nm) I 1001 (tq T 0) yZ0 h3 g2 zfu zfu 0 (by omega) (by show 1001 ≤ 4000; omega) (by show 1001 ≤ 4000; omega) (Nat.zero_le _) ⟨Nat.zero_le _, fun k hk => absurd hk (Nat.not_lt_zero k)⟩ K3 Q1 C3 Y2 Q2 M2 z3 with ⟨f, hc', hm', p1, p2, p3, p4, p5, p6, p7⟩ | ⟨Y, hc', hm', p1, p2, p3, p4, p5, p6, p7, p8⟩
  · exact Or.inl ⟨f, hc', hm', p1, p2, p3, u3.tr (p4.mono hC), p5, p6, t2.tr (p7.mono hY), by rw [(p7 _ _ (by unfold AYm AVm AM1; omega)).1]; exact y2⟩
  · exact Or.inr ⟨Y, hc', hm', p1, p2, p3, u3.tr (p4.mono hC), p5, p6, p7, t2.tr (p8.mono hY), by rw [(p8 _ _ (by unfold AYm AVm AM1; omega)).1]; exact y2⟩
theorem c_yb (C : YC Y h 27) (hY : Y.1 ≤ 40) : ∃ h', g_X9_become h 38 27 = some h' ∧ YC Y h' 38 ∧ zsm (fun a _ => a = 38 ∨ a = 39) h h' := by
  have c1 : zcg 0 0 40 40 40 = true := by decide
  have x0 : zx 0 = 0 := by decide
  have x40 : zx 40 = 40 := by decide
  unfold g_X9_become
  rw [zr_38_0, zr_27_0, c1, x0, x40, zgu_t, zlet_e]
  generalize e1 : zcpi h 28 0 39 0 40 = h1
  obtain ⟨k1, w1⟩ := zcp e1
  have r : h1.1 27 1 = nI Y.1 := by rw [(w1 _ _ (by omega)).1]; exact C.1
  rw [zlet_e, r]
  refine ⟨_, rfl, ⟨zpi_s _ _ _ _, fun k hk => ?_⟩, (w1.mono (fun a k z => Or.inr z)).tr (zsm.pi (Or.inl rfl))⟩
  rw [zpi_r, if_neg (by omega)]
  show h1.1 39 k = _
  rw [k1 k (by omega)]; exact C.2 k hk
theorem RelI.yr (I : RelI R S pc pS Z) (H : YI (rn R) Y) : RelI R S pc pS (zyZ Z Y) := by
  obtain ⟨i1, i2, i3, j1, j2, j3, j4, j5, j6, j7⟩ := I
  exact ⟨i1, i2, i3, j1, H, j3, j4, Nat.zero_le _, fun k hk => absurd hk (Nat.not_lt_zero k), j7⟩
theorem RelC.yr (C : RelC R S pc pS (ztZ Z) h) (x : zsm (fun a _ => a = 38 ∨ a = 39) h h') (e : YC Y h' 38) : RelC R S pc pS (zyZ Z Y) h' := by
  obtain ⟨⟨h1, h2, h3, h4, h5, h6, h7, h8, h9, h10⟩, s, p⟩ := C
  refine ⟨⟨h1.same3 x (fun a b _ _ => by omega), h2.same x (fun k => by omega) (fun k _ => by omega), fun k hk => ?_, fun p hp => ?_, h5.same x (fun a b _ _ => by omega), e, h7.same x (fun k => by omega), fun m hm => ?_, ?_, fun k hk => absurd hk (Nat.not_lt_zero k)⟩, s.same x (fun a b _ _ => by omega), p.same x (fun a k _ _ => by omega)⟩
  · rw [(x 9 k (by omega)).1]; exact h3 k hk
  · rw [(x 4 p (by omega)).2]; exact h4 p hp
  · obtain ⟨a1, a2⟩ := h8 m hm
    exact ⟨by rw [(x _ _ (by omega)).1]; exact a1, fun z => ⟨(a2 z).1.same x (fun a b _ _ => by omega), (a2 z).2.1.same x (fun a k _ _ => by omega), (a2 z).2.2.same x (fun k => by omega)⟩⟩
  · rw [(x 1 1 (by omega)).1]; exact h9
theorem RelM.yr (I : RelI R S pc pS Z) (M : RelM R S pc pS (ztZ Z) h) (x : zsm (AL 0) h h') (e : YM Y h' 0) : RelM R S pc pS (zyZ Z Y) h' := by
  obtain ⟨⟨h1, h2, h3, h4, h6, h7, h8, h9, h10⟩, s, p, m0⟩ := M
  have hZ := I.2.2.2
  refine ⟨⟨h1.same x (fun a b _ _ => by unfold AL; omega), h2.same x (fun a k _ _ => by unfold AL; omega), fun k hk => ?_, fun p hp => ?_, e, h7.same x (fun a k _ _ => by unfold AL; omega), fun m hm => ?_, ?_, fun k hk => absurd hk (Nat.not_lt_zero k)⟩, s.same x (fun b => by unfold AL; omega), p.same x (by unfold AL; omega) (fun k => by unfold AL; omega), m0.same x (fun k => by unfold AL; omega)⟩
  · rw [(x _ _ (by unfold AL; omega)).1]; exact h3 k hk
  · rw [(x _ _ (by unfold AL; omega)).2]; exact h4 p hp
  · obtain ⟨b1, b2⟩ := h8 m hm
    exact ⟨by rw [(x _ _ (by unfold AL; omega)).1]; exact b1, fun z => ⟨(b2 z).1.same x (fun k => by unfold AL; omega), (b2 z).2.1.sameL (hZ.2.2.2.1 m hm z).2.1.1 x (by omega), (b2 z).2.2.same x (fun a k _ _ => by unfold AL; omega)⟩⟩
  · rw [(x _ _ (by unfold AL; omega)).1]; exact h9
theorem RelC.pn (I : RelI R S pc pS Z) (C : RelC R S pc pS Z h) : PN 3 4 (rn R) (znm Z) h := ⟨I.1.1, C.1.1.1, C.1.2.2.2.1, I.2.2.2.2.2.2.2.2.2⟩
theorem RelM.pn (I : RelI R S pc pS Z) (M : RelM R S pc pS Z h) : PNm 0 (rn R) (znm Z) h := ⟨I.1.1, by decide, M.1.1.1, fun p hp => by rw [show 7 * 0 + p = p by omega]; exact M.1.2.2.2.1 p hp, I.2.2.2.2.2.2.2.2.2⟩
theorem ok_years (H : Rel h) : OKw h (g_X11_years h 0) (fun h => g_X12_years h 139) := by
  obtain ⟨R, S, pc, pS, Z, I, C, M⟩ := H
  have ec : ∀ {v : Int32} {hc : zH}, g_X4_readTape_c9 h 26 = some (v, hc) → g_X11_years h 0 = if v = 0 then ((g_X9_become hc 38 27).bind fun v_3 => some (v, v_3)) else (some (v, hc)) := by
    intro v hc e
    unfold g_X11_years
    rw [zr_0_3, zr_0_6, zr_37_1, zr_26_4, e, zbind_s]
  rcases r_years I.ti C.tc (C.pn I) M.t1 M.t2 (M.pn I) with ⟨f, hc', hm', p1, p2, p3, p4, p5, -⟩ | ⟨Y, hc', hm', p1, p3, p4, p5, p6, -⟩
  · have u : zsm (fun a _ => a < 139) h hc' := p4.mono (fun a k z => by unfold ARc at z; omega)
    have M1 : RelM R S pc pS Z (zpi hc' 139 0 0) := (M.other u (fun a k z => z)).th 0
    have C1 : RelC R S pc pS (ztZ Z) hc' := C.tp p4 p5
    rcases r_years (hm := zpi hc' 139 0 0) I.ti C.tc (C.pn I) M1.t1 M1.t2 (M1.pn I) with ⟨f', hc2, hm', -, s2, s3, s4, s5, s6, s7, s8⟩ | ⟨Y, hc2, hm', s1, s3, -⟩
    · have z1 : nI f = nI f' := (someP (p3.symm.trans s3)).1
      rw [znI_eq (by omega) (by omega)] at z1
      subst z1
      refine ⟨nI f, hc', hm', ?_, ?_, R, S, pc, pS, ztZ Z, I.tp, ?_, M1.tp I s7 s8⟩
      · rw [ec p3, if_neg (nI_f0 p1 p2)]
      · show g_X12_years hc' 139 = _
        unfold g_X12_years
        rw [zlet_e]
        exact s6
      · exact (C1.other (zsm.pi (A := fun a _ => a = 139) rfl) (fun a k z => by omega)).other s7 (fun a k z => by unfold ARm AWn AWm at z; omega)
    · have z1 : nI f = 0 := (someP (p3.symm.trans s3)).1
      exact absurd z1 (nI_f0 p1 p2)
  · obtain ⟨h1, e1, -, w1⟩ := c_yb p4 p1.1
    have u : zsm (fun a _ => a < 139) h h1 := (p5.mono (fun a k z => by unfold ARc at z; omega)).tr (w1.mono (fun a k z => by omega))
    have M1 : RelM R S pc pS Z (zpi h1 139 0 0) := (M.other u (fun a k z => z)).th 0
    rcases r_years (hm := zpi h1 139 0 0) I.ti C.tc (C.pn I) M1.t1 M1.t2 (M1.pn I) with ⟨f', hc2, hm', s1, s2, s3, -⟩ | ⟨Y2, hc2, hm', s1, s3, s4, s5, s6, s7, s8, s9, s10⟩
    · have z1 : (0 : Int32) = nI f' := (someP (p3.symm.trans s3)).1
      exact absurd z1.symm (nI_f0 s1 s2)
    · have z := (someP (p3.symm.trans s3)).2
      subst z
      obtain ⟨h2, e2, C2, w2⟩ := c_yb s4 s1.1
      have z : h1 = h2 := by
        have : some h1 = some h2 := e1.symm.trans e2
        cases this; rfl
      subst z
      obtain ⟨h3, e3, k3, w3⟩ := e_laysLines (h := hm') (a := 5) (b := 0) (by decide) (by decide) (by decide)
      have e3 : g_X12_laysLines hm' 139 5 0 = some h3 := e3
      have C3 : RelC R S pc pS (zyZ Z Y2) h1 := (C.tp p5 p6).yr w1 C2
      refine ⟨0, h1, h3, ?_, ?_, R, S, pc, pS, zyZ Z Y2, I.yr s1, ?_, (M1.tp I s9 s10).yr I w3 (k3 s1.1 s8)⟩
      · rw [ec p3, if_pos rfl, e1, zbind_s]
      · show g_X12_years h1 139 = _
        unfold g_X12_years
        rw [zlet_e]
        refine Eq.trans s7 ?_
        rw [e3, zbind_s]
      · exact ((C3.other (zsm.pi (A := fun a _ => a = 139) rfl) (fun a k z => by omega)).other s9 (fun a k z => by unfold ARm AWn AWm at z; omega)).other w3 (fun a k z => by unfold AL at z; omega)
end N18
