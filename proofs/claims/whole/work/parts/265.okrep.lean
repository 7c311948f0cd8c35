/-! republic: both answer alike -/
/-- what reading writes -/
def ARc : Nat → Nat → Prop := fun a k => (a = 1 ∧ 1 ≤ k ∧ k ≤ 5) ∨ (13 ≤ a ∧ a ≤ 28)
def ARm : Nat → Nat → Prop := fun a k => AWn a k ∨ (a = 164 ∧ k = 5) ∨ ((165 ≤ a ∧ a ≤ 167) ∧ 200 ≤ k)
def ztZ (Z : zZ) : zZ := (zg Z, zy Z, zhd Z, zmk Z, (0, fun _ => 0), znm Z)
section N16
variable {R : zRp} {S S' : zSt} {pc : Nat} {pS : Nat → zSt} {Z : zZ} {h h' hm : zH} {A : Nat → Nat → Prop} {T : zTp} {D : zDr} {q : Nat}
theorem RelI.tp (I : RelI R S pc pS Z) : RelI R S pc pS (ztZ Z) := by
  obtain ⟨i1, i2, i3, j1, j2, j3, j4, j5, j6, j7⟩ := I
  exact ⟨i1, i2, i3, j1, j2, j3, j4, Nat.zero_le _, fun k hk => absurd hk (Nat.not_lt_zero k), j7⟩
theorem RelC.tp (C : RelC R S pc pS Z h) (x : zsm ARc h h') (e : h'.1 1 1 = 0) : RelC R S pc pS (ztZ Z) h' := by
  obtain ⟨⟨h1, h2, h3, h4, h5, h6, h7, h8, h9, h10⟩, s, p⟩ := C
  refine ⟨⟨h1.same3 x (fun a b _ _ => by unfold ARc; omega), h2.same x (fun k => by unfold ARc; omega) (fun k _ => by unfold ARc; omega), fun k hk => ?_, fun p hp => ?_, h5.same x (fun a b _ _ => by unfold ARc; omega), h6.same x (fun a k _ _ => by unfold ARc; omega), h7.same x (fun k => by unfold ARc; omega), fun m hm => ?_, e, fun k hk => absurd hk (Nat.not_lt_zero k)⟩, s.same x (fun a b _ _ => by unfold ARc; omega), p.same x (fun a k _ _ => by unfold ARc; omega)⟩
  · rw [(x 9 k (by unfold ARc; omega)).1]; exact h3 k hk
  · rw [(x 4 p (by unfold ARc; omega)).2]; exact h4 p hp
  · obtain ⟨a1, a2⟩ := h8 m hm
    exact ⟨by rw [(x _ _ (by unfold ARc; omega)).1]; exact a1, fun z => ⟨(a2 z).1.same x (fun a b _ _ => by unfold ARc; omega), (a2 z).2.1.same x (fun a k _ _ => by unfold ARc; omega), (a2 z).2.2.same x (fun k => by unfold ARc; omega)⟩⟩
theorem YM.sameA {Y : zY} {m : Nat} (K : YM Y h m) (hY : Y.1 ≤ 40) (hm : m < 5) (x : zsm ARm h h') : YM Y h' m :=
  ⟨by rw [(x _ _ (by unfold ARm AWn AWm; omega)).1]; exact K.1, fun k hk => ⟨by rw [(x _ _ (by unfold ARm AWn AWm; omega)).1]; exact (K.2 k hk).1, fun z => by rw [(x _ _ (by unfold ARm AWn AWm; omega)).1]; exact (K.2 k hk).2.1 z, fun z => by rw [(x _ _ (by unfold ARm AWn AWm; omega)).1]; exact (K.2 k hk).2.2 z⟩⟩
theorem LMl.sameA {g : zLaw} {l : Nat} (hl : l < 2) (H : LMl g h l) (x : zsm ARm h h') : LMl g h' l := by
  have e1 := (x 149 l (by unfold ARm AWn AWm; omega)).1
  have e2 := (x 150 l (by unfold ARm AWn AWm; omega)).1
  cases g with
  | none => show h'.1 150 l = h'.1 149 l; rw [e1, e2]; exact H
  | some f =>
    refine ⟨by rw [e1, e2]; exact H.1, fun h1 a b c => H.2 h1 (fun k hk => (a k hk).trans (x 151 k (by unfold ARm AWn AWm; omega)).1) (b.trans e1) (c.trans e2)⟩
theorem RelM.tp (I : RelI R S pc pS Z) (M : RelM R S pc pS Z h) (x : zsm ARm h h') (e : h'.1 139 1 = 0) : RelM R S pc pS (ztZ Z) h' := by
  obtain ⟨⟨⟨a1, a2, a3, a4, a5, a6, a7, a8⟩, h2, h3, h4, h6, h7, h8, h9, h10⟩, s, p, m0⟩ := M
  have hn := I.1.1
  have hZ := I.2.2.2
  refine ⟨⟨⟨?_, ?_, ?_, ?_, fun p hp => ?_, fun p hp => ?_, fun p hp => ?_, fun p hp => ?_⟩, ⟨h2.1.sameA (by decide) x, h2.2.sameA (by decide) x⟩, fun k hk => ?_, fun p hp => ?_, h6.sameA hZ.2.1.1 (by decide) x, h7.same x (fun a k _ _ => by unfold ARm AWn AWm; omega), fun m hm => ?_, e, fun k hk => absurd hk (Nat.not_lt_zero k)⟩, s.same x (fun b => by unfold ARm AWn AWm; omega), p.same x (by unfold ARm AWn AWm; omega) (fun k => by unfold ARm AWn AWm; omega), m0.same x (fun k => by unfold ARm AWn AWm; omega)⟩
  · rw [(x _ _ (by unfold ARm AWn AWm; omega)).1]; exact a1
  · rw [(x _ _ (by unfold ARm AWn AWm; omega)).1]; exact a2
  · rw [(x _ _ (by unfold ARm AWn AWm; omega)).1]; exact a3
  · rw [(x _ _ (by unfold ARm AWn AWm; omega)).1]; exact a4
  · rw [(x _ _ (by unfold ARm AWn AWm; omega)).1]; exact a5 p hp
  · rw [(x _ _ (by unfold ARm AWn AWm; omega)).1]; exact a6 p hp
  · rw [(x _ _ (by unfold ARm AWn AWm; omega)).1]; exact a7 p hp
  · rw [(x _ _ (by unfold ARm AWn AWm; omega)).1]; exact a8 p hp
  · rw [(x _ _ (by unfold ARm AWn AWm; omega)).1]; exact h3 k hk
  · rw [(x _ _ (by unfold ARm AWn AWm; omega)).2]; exact h4 p hp
  · obtain ⟨b1, b2⟩ := h8 m hm
    exact ⟨by rw [(x _ _ (by unfold ARm AWn AWm; omega)).1]; exact b1, fun z => ⟨(b2 z).1.same x (fun k => by unfold ARm AWn AWm; omega), (b2 z).2.1.sameA (hZ.2.2.2.1 m hm z).2.1.1 (by omega) x, (b2 z).2.2.same x (fun a k _ _ => by unfold ARm AWn AWm; omega)⟩⟩
theorem nZ_I (J : DI D) : RelI (dR D) (ifr (rn (dR D)) (gtD D)) 0 pS (nZ D) :=
  ⟨J.1, SI.fr (fun k _ => gtD_le J k), fun i hi => absurd hi (Nat.not_lt_zero i), fun k _ => gtD_le J k, ⟨Nat.zero_le _, fun k hk => absurd hk (Nat.not_lt_zero k)⟩, ⟨Nat.zero_le _, fun k hk => absurd hk (Nat.not_lt_zero k)⟩, fun m _ z => (by cases z), Nat.zero_le _, fun k hk => absurd hk (Nat.not_lt_zero k), J.2.2.1⟩
theorem RelI.ti (I : RelI R S pc pS Z) : TI (ztp Z) := ⟨I.2.2.2.2.2.2.2.1, I.2.2.2.2.2.2.2.2.1⟩
theorem RelC.tc (C : RelC R S pc pS Z h) : TC (ztp Z) h := ⟨C.1.2.2.2.2.2.2.2.2.1, C.1.2.2.2.2.2.2.2.2.2⟩
theorem RelM.t1 (M : RelM R S pc pS Z h) : h.1 139 1 = nI (ztp Z).1 := M.1.2.2.2.2.2.2.2.1
theorem RelM.t2 (M : RelM R S pc pS Z h) : ∀ k, k < (ztp Z).1 → h.1 140 k = nI ((ztp Z).2 k) := M.1.2.2.2.2.2.2.2.2
theorem someP {x y : Int32} {k k' : zH} (z : some (x, k) = some (y, k')) : x = y ∧ k = k' := by
  cases z
  exact ⟨rfl, rfl⟩
theorem nI_f0 {f : Nat} (h0 : 0 < f) (h1 : f < 20000) : ¬ nI f = 0 := by rw [zeq_0 (by omega)]; omega
theorem AWt_lo {a k : Nat} (z : AWt a k) : ARc a k := by unfold AWt AWc at z; unfold ARc; omega
theorem ok_republic (H : Rel h) : OKw h (g_X11_republic h 0) (fun h => g_X12_republic h 139) := by
  obtain ⟨R, S, pc, pS, Z, I, C, M⟩ := H
  have ec : ∀ {v : Int32} {hc : zH}, g_X4_readTape_c5 h 13 = some (v, hc) → g_X11_republic h 0 = if v = 0 then ((g_X5_become hc 3 14).bind fun v_3 => (g_X7_begin v_3 29).bind fun v_4 => (g_X2_begin v_4 37).bind fun v_5 => (g_X3_forget v_5 73).bind fun v_6 => g_X11_republic_49 0 zfu v 0 v_6) else (some (v, hc)) := by
    intro v hc e
    unfold g_X11_republic
    rw [zr_0_1, zr_0_2, zr_0_4, zr_0_6, zr_0_8, zr_13_1, e, zbind_s]
  rcases r_all I.ti C.tc M.t1 M.t2 with ⟨f, hc', hm', p1, p2, p3, p4, p5, -⟩ | ⟨D, q, hc', hm', p1, p2, p3, p4, p5, p6, -⟩
  · have u : zsm (fun a _ => a < 139) h hc' := p4.mono (fun a k z => by unfold AWt AWc at z; omega)
    have M1 : RelM R S pc pS Z (zpi hc' 139 0 0) := (M.other u (fun a k z => z)).th 0
    have C1 : RelC R S pc pS (ztZ Z) hc' := C.tp (p4.mono (fun a k z => AWt_lo z)) p5
    rcases r_all (hm := zpi hc' 139 0 0) I.ti C.tc M1.t1 M1.t2 with ⟨f', hc2, hm', -, s2, s3, s4, s5, s6, s7, s8, s9⟩ | ⟨D, q, hc2, hm', s1, s2, s3, -⟩
    · have z : some (nI f, hc') = some (nI f', hc2) := p3.symm.trans s3
      have z1 : nI f = nI f' := (someP z).1
      rw [znI_eq (by omega) (by omega)] at z1
      subst z1
      refine ⟨nI f, hc', hm', ?_, ?_, R, S, pc, pS, ztZ Z, I.tp, ?_, M1.tp I (s8.mono (fun a k z => Or.inl z)) s9⟩
      · rw [ec p3, if_neg (nI_f0 p1 p2)]
      · show g_X12_republic hc' 139 = _
        unfold g_X12_republic
        rw [zlet_e, s6, zbind_s, zb_f, if_pos rfl, s7]
      · exact (C1.other (zsm.pi (A := fun a _ => a = 139) rfl) (fun a k z => by omega)).other s8 (fun a k z => by unfold AWn AWm at z; omega)
    · have z : some (nI f, hc') = some ((0 : Int32), hc2) := p3.symm.trans s3
      have z1 : nI f = 0 := (someP z).1
      exact absurd z1 (nI_f0 p1 p2)
  · obtain ⟨-, top, t1, t2, -⟩ := C.2.2
    have t3 : hc'.1 73 1 = nI top := by rw [(p5 _ _ (by unfold AWt AWc; omega)).1]; exact t2
    obtain ⟨h1, e1, -, w1⟩ := c_lay (pS := pS) p2 p4 p1 p6 t1 t3
    have u : zsm (fun a _ => a < 139) h h1 := (p5.mono (fun a k z => by unfold AWt AWc at z; omega)).tr (w1.mono (fun a k z => z))
    have M1 : RelM R S pc pS Z (zpi h1 139 0 0) := (M.other u (fun a k z => z)).th 0
    rcases r_all (hm := zpi h1 139 0 0) I.ti C.tc M1.t1 M1.t2 with ⟨f', hc2, hm', s1, s2, s3, -⟩ | ⟨D2, q2, hc2, hm', s1, s2, s3, s4, s5, s6, s7, s8, s9, s10⟩
    · have z : some ((0 : Int32), hc') = some (nI f', hc2) := p3.symm.trans s3
      have z1 : (0 : Int32) = nI f' := (someP z).1
      exact absurd z1.symm (nI_f0 s1 s2)
    · have z : some ((0 : Int32), hc') = some ((0 : Int32), hc2) := p3.symm.trans s3
      cases z
      obtain ⟨h2, e2, C2, -⟩ := c_lay (pS := pS) s2 s4 s1 p6 t1 t3
      have z : some ((0 : Int32), h1) = some ((0 : Int32), h2) := e1.symm.trans e2
      cases z
      have m0 : M0 hm' := M1.2.2.2.same s9 (fun k => by unfold AWn AWm; omega)
      obtain ⟨h3, e3, M3, w3⟩ := m_lay (pS := pS) s2 s8 s1 s10 m0
      refine ⟨0, h1, h3, ?_, ?_, dR D2, _, 0, pS, nZ D2, nZ_I s2, ?_, M3⟩
      · rw [ec p3, if_pos rfl, e1]
      · show g_X12_republic h1 139 = _
        unfold g_X12_republic
        rw [zlet_e, s7, zbind_s, zb_t, if_neg (by decide), e3]
      · exact ((C2.other (zsm.pi (A := fun a _ => a = 139) rfl) (fun a k z => by omega)).other s9 (fun a k z => by unfold AWn AWm at z; omega)).other w3 (fun a k z => z)
end N16
