/-! deeds by hand: tax, gift, cast, die, day, undo -/
section O3
variable {R : zRp} {S S' : zSt} {pc pc' : Nat} {pS pS' : Nat → zSt} {Z : zZ} {h h' h1 h2 : zH} {t : Nat}
def Alo : Nat → Nat → Prop := fun a _ => a < 139
def Ahi : Nat → Nat → Prop := fun a _ => 139 ≤ a
theorem okw {a : Option (Int32 × zH)} {b : zH → Option (Int32 × zH)} (H : Rel h) (K : ∀ R S pc pS Z, RelI R S pc pS Z → RelC R S pc pS Z h → RelM R S pc pS Z h → ∃ v h1 S' pc' pS' Z', a = some (v, h1) ∧ RelC R S' pc' pS' Z' h1 ∧ zsm Alo h h1 ∧ (RelM R S pc pS Z (zpi h1 139 0 0) → ∃ h2, b h1 = some (v, h2) ∧ RelI R S' pc' pS' Z' ∧ RelM R S' pc' pS' Z' h2 ∧ zsm Ahi (zpi h1 139 0 0) h2)) : OKw h a b := by
  obtain ⟨R, S, pc, pS, Z, I, C, M⟩ := H
  obtain ⟨v, h1, S', pc', pS', Z', e1, C1, w1, K2⟩ := K R S pc pS Z I C M
  have M1 : RelM R S pc pS Z h1 := M.other w1 (fun a k z => z)
  obtain ⟨h2, e2, I2, M2, w2⟩ := K2 (M1.th 0)
  have x : zsm Ahi h1 (zpi h1 139 0 0) := zsm.pi (by unfold Ahi; omega)
  exact ⟨v, h1, h2, e1, e2, R, S', pc', pS', Z', I2, C1.other (x.tr w2) (fun a k z => z), M2⟩
theorem okb {a : Option (Bool × zH)} {b : zH → Option (Bool × zH)} (H : Rel h) (K : ∀ R S pc pS Z, RelI R S pc pS Z → RelC R S pc pS Z h → RelM R S pc pS Z h → ∃ v h1 S' pc' pS' Z', a = some (v, h1) ∧ RelC R S' pc' pS' Z' h1 ∧ zsm Alo h h1 ∧ (RelM R S pc pS Z (zpi h1 139 0 0) → ∃ h2, b h1 = some (v, h2) ∧ RelI R S' pc' pS' Z' ∧ RelM R S' pc' pS' Z' h2 ∧ zsm Ahi (zpi h1 139 0 0) h2)) : OKb h a b := by
  obtain ⟨R, S, pc, pS, Z, I, C, M⟩ := H
  obtain ⟨v, h1, S', pc', pS', Z', e1, C1, w1, K2⟩ := K R S pc pS Z I C M
  have M1 : RelM R S pc pS Z h1 := M.other w1 (fun a k z => z)
  obtain ⟨h2, e2, I2, M2, w2⟩ := K2 (M1.th 0)
  have x : zsm Ahi h1 (zpi h1 139 0 0) := zsm.pi (by unfold Ahi; omega)
  exact ⟨v, h1, h2, e1, e2, R, S', pc', pS', Z', I2, C1.other (x.tr w2) (fun a k z => z), M2⟩
theorem RelC.keep (I : RelI R S pc pS Z) (C : RelC R S pc pS Z h) : ∃ h1, g_X3_keep h 73 40 = some h1 ∧ CL R S h1 40 ∧ ∀ S' h2, SC (rn R) S' h2 40 → zsm (AT 40) h1 h2 → RelC R S' (ipu pc pS S).1 (ipu pc pS S).2 Z h2 ∧ zsm Alo h h2 := by
  obtain ⟨h1, e1, P1, w1⟩ := e_X3_keep I.1.1 C.2.2 z40 (by decide) C.2.1
  have Z1 : CZ R Z h1 := C.1.same w1 (fun a k z => by unfold AP at z; unfold Acl; omega)
  refine ⟨h1, e1, ⟨⟨I.1, I.2.1, z40, Z1.1, C.2.1.same w1 (fun a b ha hb => by unfold AP; omega)⟩, Z1.2.1⟩, fun S' h2 K w2 => ⟨⟨Z1.same w2 (fun a k z => by unfold AT at z; unfold Acl; omega), K, P1.same w2 (fun a k ha hb => by unfold AT; omega)⟩, ?_⟩⟩
  exact (w1.mono (fun a k z => by unfold AP at z; unfold Alo; omega)).tr (w2.mono (fun a k z => by unfold AT at z; unfold Alo; omega))
theorem RelM.keep (I : RelI R S pc pS Z) (M : RelM R S pc pS Z h) : ∃ h1, g_X12_keeps h 139 = some h1 ∧ ML R S h1 ∧ ∀ S' h2, SM (rn R) S' h2 171 0 → zsm AM h1 h2 → RelM R S' (ipu pc pS S).1 (ipu pc pS S).2 Z h2 ∧ zsm Ahi h h2 := by
  obtain ⟨h1, e1, P1, w1⟩ := e_X12_keeps I.1.1 M.2.2.1 M.2.1
  have Z1 : MZ R Z h1 := M.1.same w1 (fun a k z => by unfold AK at z; unfold Amo; omega)
  have M01 : M0 h1 := M.2.2.2.same w1 (fun k => by unfold AK; omega)
  refine ⟨h1, e1, ⟨⟨I.1, I.2.1, Z1.1, M.2.1.same w1 (fun k => by unfold AK; omega)⟩, Z1.2.1, M01⟩, fun S' h2 K w2 => ⟨⟨Z1.same w2 (fun a k z => by unfold AM at z; unfold Amo; omega), K, P1.same w2 (by unfold AM; omega) (fun k => by unfold AM; omega), M01.same w2 (fun k => by unfold AM; omega)⟩, ?_⟩⟩
  exact (w1.mono (fun a k z => by unfold AK at z; unfold Ahi; omega)).tr (w2.mono (fun a k z => by unfold AM at z; unfold Ahi; omega))
theorem RelI.keep (I : RelI R S pc pS Z) (HS : SI (rn R) S') : RelI R S' (ipu pc pS S).1 (ipu pc pS S).2 Z := by
  refine ⟨I.1, HS, fun i hi => ?_, I.2.2.2⟩
  have k := I.2.2.1
  unfold ipu at hi ⊢
  by_cases c : pc = 16
  · simp only [if_pos c] at hi ⊢
    by_cases c2 : i = 15
    · rw [if_pos c2]; exact I.2.1
    · rw [if_neg c2]; exact k (i + 1) (by omega)
  · simp only [if_neg c] at hi ⊢
    by_cases c2 : i = pc
    · rw [if_pos c2]; exact I.2.1
    · rw [if_neg c2]; exact k i (by omega)
/-- refused: nothing is changed -/
theorem okw_no {v : Int32} {b : zH → Option (Int32 × zH)} (I : RelI R S pc pS Z) (C : RelC R S pc pS Z h) (e : RelM R S pc pS Z (zpi h 139 0 0) → b h = some (v, zpi h 139 0 0)) : ∃ v' h1 S' pc' pS' Z', some (v, h) = some (v', h1) ∧ RelC R S' pc' pS' Z' h1 ∧ zsm Alo h h1 ∧ (RelM R S pc pS Z (zpi h1 139 0 0) → ∃ h2, b h1 = some (v', h2) ∧ RelI R S' pc' pS' Z' ∧ RelM R S' pc' pS' Z' h2 ∧ zsm Ahi (zpi h1 139 0 0) h2) :=
  ⟨v, h, S, pc, pS, Z, rfl, C, zsm.rf, fun M => ⟨_, e M, I, M, zsm.rf⟩⟩
theorem okb_no {v : Bool} {b : zH → Option (Bool × zH)} (I : RelI R S pc pS Z) (C : RelC R S pc pS Z h) (e : RelM R S pc pS Z (zpi h 139 0 0) → b h = some (v, zpi h 139 0 0)) : ∃ v' h1 S' pc' pS' Z', some (v, h) = some (v', h1) ∧ RelC R S' pc' pS' Z' h1 ∧ zsm Alo h h1 ∧ (RelM R S pc pS Z (zpi h1 139 0 0) → ∃ h2, b h1 = some (v', h2) ∧ RelI R S' pc' pS' Z' ∧ RelM R S' pc' pS' Z' h2 ∧ zsm Ahi (zpi h1 139 0 0) h2) :=
  ⟨v, h, S, pc, pS, Z, rfl, C, zsm.rf, fun M => ⟨_, e M, I, M, zsm.rf⟩⟩
theorem ok_tax (H : Rel h) : OKw h (g_X11_tax h 0) (fun h => g_X12_tax h 139) := by
  refine okw H (fun R S pc pS Z I C M => ?_)
  have Cl := C.cl I
  unfold g_X11_tax
  simp only [zr_0_0, zr_0_1, zr_0_2, zr_0_3, zr_0_4, zr_0_5, zr_0_6, zr_0_7, zr_0_8, zr_1_0, zr_3_0, zr_3_1, zr_3_2, zr_3_3, zr_3_4, zr_3_5, zr_3_6, zr_10_0, zr_10_1, zr_13_0, zr_13_1, zr_13_4, zr_14_0, zr_14_1, zr_14_2, zr_14_3, zr_14_4, zr_14_5, zr_14_6, zr_21_0, zr_21_1, zr_24_0, zr_24_1, zr_24_2, zr_26_0, zr_26_1, zr_26_4, zr_27_0, zr_37_0, zr_37_1, zr_38_0, zr_44_0, zr_44_1, zr_44_2, zr_44_3, zr_45_0, zr_45_1, zr_52_0, zr_52_1, zr_59_0, zr_59_1, zr_66_0, zr_66_1, zr_73_0, zr_74_0, zr_74_1, zr_74_2, zr_74_3, zr_74_4, zr_74_5, zr_74_6, zr_74_7, zr_74_8, zr_74_9, zr_74_10, zr_74_11, zr_74_12, zr_74_13, zr_74_14, zr_74_15, zr_139_2, zr_139_10, zr_139_11, zr_139_12, zr_139_13, zr_139_14, zr_139_15, zr_139_16, zr_139_17, zr_139_18, zr_139_19, zr_139_20, zr_139_23, zr_139_24, zr_139_25, zr_139_26, zr_139_27, zr_139_28, zr_139_29, zr_139_30, zr_139_31, zr_139_32, zr_139_33, zr_139_34, zr_139_37, zr_139_38, zr_139_39, zr_139_40, zr_139_41, zr_139_42, zr_139_43, zr_139_44, zr_139_45, zr_139_46, zr_139_47, zr_139_48, zr_139_50]
  rw [e_X7_canLevy Cl.1]
  simp only [zbind_s, zb_eq0]
  cases hc : ict R S
  · simp only [if_true]
    refine okw_no I C (fun M => ?_)
    show g_X12_tax h 139 = _
    unfold g_X12_tax
    rw [zlet_e, e_X12_gov (M.ml I).1 M.2.2.2, zbind_s, e_X12_canTax (M.ml I).1, hc]; rfl
  · simp only [Bool.true_eq_false, if_false]
    obtain ⟨g, hg⟩ := ict_some hc
    obtain ⟨h1, e1, C1, K1⟩ := C.keep I
    obtain ⟨h2, e2, C2, w2⟩ := e_X7_levy C1 hg
    obtain ⟨C3, w3⟩ := K1 _ h2 C2.1.2.2.2.2 w2
    rw [e1, zbind_s, e2]
    refine ⟨_, h2, _, _, _, _, rfl, C3, w3, fun M => ?_⟩
    obtain ⟨k1, f1, N1, L1⟩ := M.keep I
    obtain ⟨k2, f2, N2, u2⟩ := e_X12_taxes N1 (ig_lt hg).1
    obtain ⟨N3, u3⟩ := L1 _ k2 N2.1.2.2.2 u2
    refine ⟨k2, ?_, I.keep N2.1.2.1, N3, u3⟩
    show g_X12_tax h2 139 = _
    unfold g_X12_tax
    rw [zlet_e, e_X12_gov (M.ml I).1 M.2.2.2, zbind_s, e_X12_canTax (M.ml I).1, hc, zbind_s, hg, zo_some]
    simp only [zb_eq0, Bool.true_eq_false, if_false]
    rw [f1, zbind_s, f2]; rfl
theorem ok_gift (H : Rel h) (x y : Int32) : OKw h (g_X11_gift h 0 x y) (fun h => g_X12_gift h 139 x y) := by
  refine okw H (fun R S pc pS Z I C M => ?_)
  have Cl := C.cl I
  have hn := I.1.1
  unfold g_X11_gift
  simp only [zr_0_0, zr_0_1, zr_0_2, zr_0_3, zr_0_4, zr_0_5, zr_0_6, zr_0_7, zr_0_8, zr_1_0, zr_3_0, zr_3_1, zr_3_2, zr_3_3, zr_3_4, zr_3_5, zr_3_6, zr_10_0, zr_10_1, zr_13_0, zr_13_1, zr_13_4, zr_14_0, zr_14_1, zr_14_2, zr_14_3, zr_14_4, zr_14_5, zr_14_6, zr_21_0, zr_21_1, zr_24_0, zr_24_1, zr_24_2, zr_26_0, zr_26_1, zr_26_4, zr_27_0, zr_37_0, zr_37_1, zr_38_0, zr_44_0, zr_44_1, zr_44_2, zr_44_3, zr_45_0, zr_45_1, zr_52_0, zr_52_1, zr_59_0, zr_59_1, zr_66_0, zr_66_1, zr_73_0, zr_74_0, zr_74_1, zr_74_2, zr_74_3, zr_74_4, zr_74_5, zr_74_6, zr_74_7, zr_74_8, zr_74_9, zr_74_10, zr_74_11, zr_74_12, zr_74_13, zr_74_14, zr_74_15, zr_139_2, zr_139_10, zr_139_11, zr_139_12, zr_139_13, zr_139_14, zr_139_15, zr_139_16, zr_139_17, zr_139_18, zr_139_19, zr_139_20, zr_139_23, zr_139_24, zr_139_25, zr_139_26, zr_139_27, zr_139_28, zr_139_29, zr_139_30, zr_139_31, zr_139_32, zr_139_33, zr_139_34, zr_139_37, zr_139_38, zr_139_39, zr_139_40, zr_139_41, zr_139_42, zr_139_43, zr_139_44, zr_139_45, zr_139_46, zr_139_47, zr_139_48, zr_139_50]
  rcases zps2 hn x y with ⟨p, q, hp, hq, rfl, rfl⟩ | hx
  · rw [e_X7_two Cl.1 (by omega) (by omega)]
    simp only [zbind_s, zb_eq0]
    cases hc : i2a S p q
    · simp only [if_true]
      refine okw_no I C (fun M => ?_)
      show g_X12_gift h 139 _ _ = _
      unfold g_X12_gift
      rw [zlet_e, e_X12_areAlive (M.ml I).1 hp hq, hc]; rfl
    · simp only [Bool.true_eq_false, if_false]
      obtain ⟨h1, e1, C1, K1⟩ := C.keep I
      obtain ⟨h2, e2, C2, w2⟩ := e_X7_give C1 hp hq
      obtain ⟨C3, w3⟩ := K1 _ h2 C2.1.2.2.2.2 w2
      rw [e1, zbind_s, e2]
      refine ⟨_, h2, _, _, _, _, rfl, C3, w3, fun M => ?_⟩
      obtain ⟨k1, f1, N1, L1⟩ := M.keep I
      obtain ⟨k2, f2, N2, u2⟩ := e_X12_gives N1 hp hq
      obtain ⟨N3, u3⟩ := L1 _ k2 N2.1.2.2.2 u2
      refine ⟨k2, ?_, I.keep N2.1.2.1, N3, u3⟩
      show g_X12_gift h2 139 _ _ = _
      unfold g_X12_gift
      rw [zlet_e, e_X12_areAlive (M.ml I).1 hp hq, hc, zbind_s]
      simp only [zb_eq0, Bool.true_eq_false, if_false]
      rw [f1, zbind_s, f2]
      simp (disch := omega) only [N2.1.g, zr_0_0, zr_0_1, zr_0_2, zr_0_3, zr_0_4, zr_0_5, zr_0_6, zr_0_7, zr_0_8, zr_1_0, zr_3_0, zr_3_1, zr_3_2, zr_3_3, zr_3_4, zr_3_5, zr_3_6, zr_10_0, zr_10_1, zr_13_0, zr_13_1, zr_13_4, zr_14_0, zr_14_1, zr_14_2, zr_14_3, zr_14_4, zr_14_5, zr_14_6, zr_21_0, zr_21_1, zr_24_0, zr_24_1, zr_24_2, zr_26_0, zr_26_1, zr_26_4, zr_27_0, zr_37_0, zr_37_1, zr_38_0, zr_44_0, zr_44_1, zr_44_2, zr_44_3, zr_45_0, zr_45_1, zr_52_0, zr_52_1, zr_59_0, zr_59_1, zr_66_0, zr_66_1, zr_73_0, zr_74_0, zr_74_1, zr_74_2, zr_74_3, zr_74_4, zr_74_5, zr_74_6, zr_74_7, zr_74_8, zr_74_9, zr_74_10, zr_74_11, zr_74_12, zr_74_13, zr_74_14, zr_74_15, zr_139_2, zr_139_10, zr_139_11, zr_139_12, zr_139_13, zr_139_14, zr_139_15, zr_139_16, zr_139_17, zr_139_18, zr_139_19, zr_139_20, zr_139_23, zr_139_24, zr_139_25, zr_139_26, zr_139_27, zr_139_28, zr_139_29, zr_139_30, zr_139_31, zr_139_32, zr_139_33, zr_139_34, zr_139_37, zr_139_38, zr_139_39, zr_139_40, zr_139_41, zr_139_42, zr_139_43, zr_139_44, zr_139_45, zr_139_46, zr_139_47, zr_139_48, zr_139_50, zin_t, zx_nI, nI_add, nI_mul, znI_le, znI_lt, znI_eq, znI_neg, zgu_t, zgu_f, zbind_s, zlet_e, zb_eq0, zb_eq1, zb_t, zb_f, zleL_0, zleR_0, zltL_0, zltR_0, zeq_0, zxl_0, zil_0, zmL_1, zmR_1, zaL_1, zaR_1, zleL_1, zleR_1, zltL_1, zltR_1, zeq_1, zxl_1, zil_1, zmL_2, zmR_2, zaL_2, zaR_2, zleL_2, zleR_2, zltL_2, zltR_2, zeq_2, zxl_2, zil_2, zmL_3, zmR_3, zaL_3, zaR_3, zleL_3, zleR_3, zltL_3, zltR_3, zeq_3, zxl_3, zil_3, zmL_4, zmR_4, zaL_4, zaR_4, zleL_4, zleR_4, zltL_4, zltR_4, zeq_4, zxl_4, zil_4, zmL_5, zmR_5, zaL_5, zaR_5, zleL_5, zleR_5, zltL_5, zltR_5, zeq_5, zxl_5, zil_5, zmL_6, zmR_6, zaL_6, zaR_6, zleL_6, zleR_6, zltL_6, zltR_6, zeq_6, zxl_6, zil_6, zmL_7, zmR_7, zaL_7, zaR_7, zleL_7, zleR_7, zltL_7, zltR_7, zeq_7, zxl_7, zil_7, zmL_8, zmR_8, zaL_8, zaR_8, zleL_8, zleR_8, zltL_8, zltR_8, zeq_8, zxl_8, zil_8, zmL_9, zmR_9, zaL_9, zaR_9, zleL_9, zleR_9, zltL_9, zltR_9, zeq_9, zxl_9, zil_9, zmL_10, zmR_10, zaL_10, zaR_10, zleL_10, zleR_10, zltL_10, zltR_10, zeq_10, zxl_10, zil_10, zmL_14, zmR_14, zaL_14, zaR_14, zleL_14, zleR_14, zltL_14, zltR_14, zeq_14, zxl_14, zil_14, zmL_15, zmR_15, zaL_15, zaR_15, zleL_15, zleR_15, zltL_15, zltR_15, zeq_15, zxl_15, zil_15, zmL_16, zmR_16, zaL_16, zaR_16, zleL_16, zleR_16, zltL_16, zltR_16, zeq_16, zxl_16, zil_16, zmL_20, zmR_20, zaL_20, zaR_20, zleL_20, zleR_20, zltL_20, zltR_20, zeq_20, zxl_20, zil_20, zmL_22, zmR_22, zaL_22, zaR_22, zleL_22, zleR_22, zltL_22, zltR_22, zeq_22, zxl_22, zil_22, zmL_23, zmR_23, zaL_23, zaR_23, zleL_23, zleR_23, zltL_23, zltR_23, zeq_23, zxl_23, zil_23, zmL_24, zmR_24, zaL_24, zaR_24, zleL_24, zleR_24, zltL_24, zltR_24, zeq_24, zxl_24, zil_24, zmL_25, zmR_25, zaL_25, zaR_25, zleL_25, zleR_25, zltL_25, zltR_25, zeq_25, zxl_25, zil_25, zmL_26, zmR_26, zaL_26, zaR_26, zleL_26, zleR_26, zltL_26, zltR_26, zeq_26, zxl_26, zil_26, zmL_32, zmR_32, zaL_32, zaR_32, zleL_32, zleR_32, zltL_32, zltR_32, zeq_32, zxl_32, zil_32, zmL_40, zmR_40, zaL_40, zaR_40, zleL_40, zleR_40, zltL_40, zltR_40, zeq_40, zxl_40, zil_40, zmL_49, zmR_49, zaL_49, zaR_49, zleL_49, zleR_49, zltL_49, zltR_49, zeq_49, zxl_49, zil_49, zmL_58, zmR_58, zaL_58, zaR_58, zleL_58, zleR_58, zltL_58, zltR_58, zeq_58, zxl_58, zil_58, zmL_99, zmR_99, zaL_99, zaR_99, zleL_99, zleR_99, zltL_99, zltR_99, zeq_99, zxl_99, zil_99, zmL_100, zmR_100, zaL_100, zaR_100, zleL_100, zleR_100, zltL_100, zltR_100, zeq_100, zxl_100, zil_100, zmL_107, zmR_107, zaL_107, zaR_107, zleL_107, zleR_107, zltL_107, zltR_107, zeq_107, zxl_107, zil_107, zmL_126, zmR_126, zaL_126, zaR_126, zleL_126, zleR_126, zltL_126, zltR_126, zeq_126, zxl_126, zil_126, zmL_1000, zmR_1000, zaL_1000, zaR_1000, zleL_1000, zleR_1000, zltL_1000, zltR_1000, zeq_1000, zxl_1000, zil_1000, zmL_1605, zmR_1605, zaL_1605, zaR_1605, zleL_1605, zleR_1605, zltL_1605, zltR_1605, zeq_1605, zxl_1605, zil_1605]
  · rw [e_X7_twoN Cl.1 hx]
    refine okw_no I C (fun M => ?_)
    show g_X12_gift h 139 _ _ = _
    unfold g_X12_gift
    rw [zlet_e, e_X12_areAliveN (M.ml I).1 hx]; rfl
theorem ok_cast (H : Rel h) (x y : Int32) : OKw h (g_X11_cast h 0 x y) (fun h => g_X12_cast h 139 x y) := by
  refine okw H (fun R S pc pS Z I C M => ?_)
  have Cl := C.cl I
  have hn := I.1.1
  unfold g_X11_cast
  simp only [zr_0_0, zr_0_1, zr_0_2, zr_0_3, zr_0_4, zr_0_5, zr_0_6, zr_0_7, zr_0_8, zr_1_0, zr_3_0, zr_3_1, zr_3_2, zr_3_3, zr_3_4, zr_3_5, zr_3_6, zr_10_0, zr_10_1, zr_13_0, zr_13_1, zr_13_4, zr_14_0, zr_14_1, zr_14_2, zr_14_3, zr_14_4, zr_14_5, zr_14_6, zr_21_0, zr_21_1, zr_24_0, zr_24_1, zr_24_2, zr_26_0, zr_26_1, zr_26_4, zr_27_0, zr_37_0, zr_37_1, zr_38_0, zr_44_0, zr_44_1, zr_44_2, zr_44_3, zr_45_0, zr_45_1, zr_52_0, zr_52_1, zr_59_0, zr_59_1, zr_66_0, zr_66_1, zr_73_0, zr_74_0, zr_74_1, zr_74_2, zr_74_3, zr_74_4, zr_74_5, zr_74_6, zr_74_7, zr_74_8, zr_74_9, zr_74_10, zr_74_11, zr_74_12, zr_74_13, zr_74_14, zr_74_15, zr_139_2, zr_139_10, zr_139_11, zr_139_12, zr_139_13, zr_139_14, zr_139_15, zr_139_16, zr_139_17, zr_139_18, zr_139_19, zr_139_20, zr_139_23, zr_139_24, zr_139_25, zr_139_26, zr_139_27, zr_139_28, zr_139_29, zr_139_30, zr_139_31, zr_139_32, zr_139_33, zr_139_34, zr_139_37, zr_139_38, zr_139_39, zr_139_40, zr_139_41, zr_139_42, zr_139_43, zr_139_44, zr_139_45, zr_139_46, zr_139_47, zr_139_48, zr_139_50]
  rcases zps2 hn x y with ⟨p, q, hp, hq, rfl, rfl⟩ | hx
  · have bv := I.2.1.v hn hp
    rw [e_X7_canVote Cl.1 hp hq]
    simp only [zbind_s, zb_eq0]
    cases hc : icv S p q
    · simp only [if_true]
      refine okw_no I C (fun M => ?_)
      show g_X12_cast h 139 _ _ = _
      unfold g_X12_cast
      rw [zlet_e, e_X12_areAlive (M.ml I).1 hp hq]
      simp (disch := omega) only [(M.ml I).1.v, zr_0_0, zr_0_1, zr_0_2, zr_0_3, zr_0_4, zr_0_5, zr_0_6, zr_0_7, zr_0_8, zr_1_0, zr_3_0, zr_3_1, zr_3_2, zr_3_3, zr_3_4, zr_3_5, zr_3_6, zr_10_0, zr_10_1, zr_13_0, zr_13_1, zr_13_4, zr_14_0, zr_14_1, zr_14_2, zr_14_3, zr_14_4, zr_14_5, zr_14_6, zr_21_0, zr_21_1, zr_24_0, zr_24_1, zr_24_2, zr_26_0, zr_26_1, zr_26_4, zr_27_0, zr_37_0, zr_37_1, zr_38_0, zr_44_0, zr_44_1, zr_44_2, zr_44_3, zr_45_0, zr_45_1, zr_52_0, zr_52_1, zr_59_0, zr_59_1, zr_66_0, zr_66_1, zr_73_0, zr_74_0, zr_74_1, zr_74_2, zr_74_3, zr_74_4, zr_74_5, zr_74_6, zr_74_7, zr_74_8, zr_74_9, zr_74_10, zr_74_11, zr_74_12, zr_74_13, zr_74_14, zr_74_15, zr_139_2, zr_139_10, zr_139_11, zr_139_12, zr_139_13, zr_139_14, zr_139_15, zr_139_16, zr_139_17, zr_139_18, zr_139_19, zr_139_20, zr_139_23, zr_139_24, zr_139_25, zr_139_26, zr_139_27, zr_139_28, zr_139_29, zr_139_30, zr_139_31, zr_139_32, zr_139_33, zr_139_34, zr_139_37, zr_139_38, zr_139_39, zr_139_40, zr_139_41, zr_139_42, zr_139_43, zr_139_44, zr_139_45, zr_139_46, zr_139_47, zr_139_48, zr_139_50, zin_t, zx_nI, nI_add, nI_mul, znI_le, znI_lt, znI_eq, znI_neg, zgu_t, zgu_f, zbind_s, zlet_e, zb_eq0, zb_eq1, zb_t, zb_f, zleL_0, zleR_0, zltL_0, zltR_0, zeq_0, zxl_0, zil_0, zmL_1, zmR_1, zaL_1, zaR_1, zleL_1, zleR_1, zltL_1, zltR_1, zeq_1, zxl_1, zil_1, zmL_2, zmR_2, zaL_2, zaR_2, zleL_2, zleR_2, zltL_2, zltR_2, zeq_2, zxl_2, zil_2, zmL_3, zmR_3, zaL_3, zaR_3, zleL_3, zleR_3, zltL_3, zltR_3, zeq_3, zxl_3, zil_3, zmL_4, zmR_4, zaL_4, zaR_4, zleL_4, zleR_4, zltL_4, zltR_4, zeq_4, zxl_4, zil_4, zmL_5, zmR_5, zaL_5, zaR_5, zleL_5, zleR_5, zltL_5, zltR_5, zeq_5, zxl_5, zil_5, zmL_6, zmR_6, zaL_6, zaR_6, zleL_6, zleR_6, zltL_6, zltR_6, zeq_6, zxl_6, zil_6, zmL_7, zmR_7, zaL_7, zaR_7, zleL_7, zleR_7, zltL_7, zltR_7, zeq_7, zxl_7, zil_7, zmL_8, zmR_8, zaL_8, zaR_8, zleL_8, zleR_8, zltL_8, zltR_8, zeq_8, zxl_8, zil_8, zmL_9, zmR_9, zaL_9, zaR_9, zleL_9, zleR_9, zltL_9, zltR_9, zeq_9, zxl_9, zil_9, zmL_10, zmR_10, zaL_10, zaR_10, zleL_10, zleR_10, zltL_10, zltR_10, zeq_10, zxl_10, zil_10, zmL_14, zmR_14, zaL_14, zaR_14, zleL_14, zleR_14, zltL_14, zltR_14, zeq_14, zxl_14, zil_14, zmL_15, zmR_15, zaL_15, zaR_15, zleL_15, zleR_15, zltL_15, zltR_15, zeq_15, zxl_15, zil_15, zmL_16, zmR_16, zaL_16, zaR_16, zleL_16, zleR_16, zltL_16, zltR_16, zeq_16, zxl_16, zil_16, zmL_20, zmR_20, zaL_20, zaR_20, zleL_20, zleR_20, zltL_20, zltR_20, zeq_20, zxl_20, zil_20, zmL_22, zmR_22, zaL_22, zaR_22, zleL_22, zleR_22, zltL_22, zltR_22, zeq_22, zxl_22, zil_22, zmL_23, zmR_23, zaL_23, zaR_23, zleL_23, zleR_23, zltL_23, zltR_23, zeq_23, zxl_23, zil_23, zmL_24, zmR_24, zaL_24, zaR_24, zleL_24, zleR_24, zltL_24, zltR_24, zeq_24, zxl_24, zil_24, zmL_25, zmR_25, zaL_25, zaR_25, zleL_25, zleR_25, zltL_25, zltR_25, zeq_25, zxl_25, zil_25, zmL_26, zmR_26, zaL_26, zaR_26, zleL_26, zleR_26, zltL_26, zltR_26, zeq_26, zxl_26, zil_26, zmL_32, zmR_32, zaL_32, zaR_32, zleL_32, zleR_32, zltL_32, zltR_32, zeq_32, zxl_32, zil_32, zmL_40, zmR_40, zaL_40, zaR_40, zleL_40, zleR_40, zltL_40, zltR_40, zeq_40, zxl_40, zil_40, zmL_49, zmR_49, zaL_49, zaR_49, zleL_49, zleR_49, zltL_49, zltR_49, zeq_49, zxl_49, zil_49, zmL_58, zmR_58, zaL_58, zaR_58, zleL_58, zleR_58, zltL_58, zltR_58, zeq_58, zxl_58, zil_58, zmL_99, zmR_99, zaL_99, zaR_99, zleL_99, zleR_99, zltL_99, zltR_99, zeq_99, zxl_99, zil_99, zmL_100, zmR_100, zaL_100, zaR_100, zleL_100, zleR_100, zltL_100, zltR_100, zeq_100, zxl_100, zil_100, zmL_107, zmR_107, zaL_107, zaR_107, zleL_107, zleR_107, zltL_107, zltR_107, zeq_107, zxl_107, zil_107, zmL_126, zmR_126, zaL_126, zaR_126, zleL_126, zleR_126, zltL_126, zltR_126, zeq_126, zxl_126, zil_126, zmL_1000, zmR_1000, zaL_1000, zaR_1000, zleL_1000, zleR_1000, zltL_1000, zltR_1000, zeq_1000, zxl_1000, zil_1000, zmL_1605, zmR_1605, zaL_1605, zaR_1605, zleL_1605, zleR_1605, zltL_1605, zltR_1605, zeq_1605, zxl_1605, zil_1605]
      unfold icv at hc
      cases h2 : i2a S p q
      · rfl
      · rw [h2] at hc
        simp at hc
        simp [hc]
    · simp only [Bool.true_eq_false, if_false]
      have hc' := hc
      unfold icv at hc'
      simp at hc'
      obtain ⟨h1, e1, C1, K1⟩ := C.keep I
      obtain ⟨h2, e2, C2, w2⟩ := e_X7_vote C1.1 hp hq hc'.2
      obtain ⟨C3, w3⟩ := K1 _ h2 C2.2.2.2.2 w2
      rw [e1, zbind_s, e2, zbind_s, e_X7_count C2 (by omega)]
      refine ⟨_, h2, _, _, _, _, rfl, C3, w3, fun M => ?_⟩
      obtain ⟨k1, f1, N1, L1⟩ := M.keep I
      obtain ⟨k2, f2, N2, u2⟩ := e_X12_casts N1.1 hp hq hc'.2
      obtain ⟨N3, u3⟩ := L1 _ k2 N2.2.2.2 u2
      refine ⟨k2, ?_, I.keep N2.2.1, N3, u3⟩
      show g_X12_cast h2 139 _ _ = _
      unfold g_X12_cast
      have hm := e_X12_count N2 (p := q) (m := 0) (by omega) (N3.2.2.2 q (by omega))
      rw [Nat.zero_add] at hm
      rw [zlet_e, e_X12_areAlive (M.ml I).1 hp hq, hc'.1, zbind_s]
      simp (disch := omega) only [(M.ml I).1.v, zr_0_0, zr_0_1, zr_0_2, zr_0_3, zr_0_4, zr_0_5, zr_0_6, zr_0_7, zr_0_8, zr_1_0, zr_3_0, zr_3_1, zr_3_2, zr_3_3, zr_3_4, zr_3_5, zr_3_6, zr_10_0, zr_10_1, zr_13_0, zr_13_1, zr_13_4, zr_14_0, zr_14_1, zr_14_2, zr_14_3, zr_14_4, zr_14_5, zr_14_6, zr_21_0, zr_21_1, zr_24_0, zr_24_1, zr_24_2, zr_26_0, zr_26_1, zr_26_4, zr_27_0, zr_37_0, zr_37_1, zr_38_0, zr_44_0, zr_44_1, zr_44_2, zr_44_3, zr_45_0, zr_45_1, zr_52_0, zr_52_1, zr_59_0, zr_59_1, zr_66_0, zr_66_1, zr_73_0, zr_74_0, zr_74_1, zr_74_2, zr_74_3, zr_74_4, zr_74_5, zr_74_6, zr_74_7, zr_74_8, zr_74_9, zr_74_10, zr_74_11, zr_74_12, zr_74_13, zr_74_14, zr_74_15, zr_139_2, zr_139_10, zr_139_11, zr_139_12, zr_139_13, zr_139_14, zr_139_15, zr_139_16, zr_139_17, zr_139_18, zr_139_19, zr_139_20, zr_139_23, zr_139_24, zr_139_25, zr_139_26, zr_139_27, zr_139_28, zr_139_29, zr_139_30, zr_139_31, zr_139_32, zr_139_33, zr_139_34, zr_139_37, zr_139_38, zr_139_39, zr_139_40, zr_139_41, zr_139_42, zr_139_43, zr_139_44, zr_139_45, zr_139_46, zr_139_47, zr_139_48, zr_139_50, zin_t, zx_nI, nI_add, nI_mul, znI_le, znI_lt, znI_eq, znI_neg, zgu_t, zgu_f, zbind_s, zlet_e, zb_eq0, zb_eq1, zb_t, zb_f, zleL_0, zleR_0, zltL_0, zltR_0, zeq_0, zxl_0, zil_0, zmL_1, zmR_1, zaL_1, zaR_1, zleL_1, zleR_1, zltL_1, zltR_1, zeq_1, zxl_1, zil_1, zmL_2, zmR_2, zaL_2, zaR_2, zleL_2, zleR_2, zltL_2, zltR_2, zeq_2, zxl_2, zil_2, zmL_3, zmR_3, zaL_3, zaR_3, zleL_3, zleR_3, zltL_3, zltR_3, zeq_3, zxl_3, zil_3, zmL_4, zmR_4, zaL_4, zaR_4, zleL_4, zleR_4, zltL_4, zltR_4, zeq_4, zxl_4, zil_4, zmL_5, zmR_5, zaL_5, zaR_5, zleL_5, zleR_5, zltL_5, zltR_5, zeq_5, zxl_5, zil_5, zmL_6, zmR_6, zaL_6, zaR_6, zleL_6, zleR_6, zltL_6, zltR_6, zeq_6, zxl_6, zil_6, zmL_7, zmR_7, zaL_7, zaR_7, zleL_7, zleR_7, zltL_7, zltR_7, zeq_7, zxl_7, zil_7, zmL_8, zmR_8, zaL_8, zaR_8, zleL_8, zleR_8, zltL_8, zltR_8, zeq_8, zxl_8, zil_8, zmL_9, zmR_9, zaL_9, zaR_9, zleL_9, zleR_9, zltL_9, zltR_9, zeq_9, zxl_9, zil_9, zmL_10, zmR_10, zaL_10, zaR_10, zleL_10, zleR_10, zltL_10, zltR_10, zeq_10, zxl_10, zil_10, zmL_14, zmR_14, zaL_14, zaR_14, zleL_14, zleR_14, zltL_14, zltR_14, zeq_14, zxl_14, zil_14, zmL_15, zmR_15, zaL_15, zaR_15, zleL_15, zleR_15, zltL_15, zltR_15, zeq_15, zxl_15, zil_15, zmL_16, zmR_16, zaL_16, zaR_16, zleL_16, zleR_16, zltL_16, zltR_16, zeq_16, zxl_16, zil_16, zmL_20, zmR_20, zaL_20, zaR_20, zleL_20, zleR_20, zltL_20, zltR_20, zeq_20, zxl_20, zil_20, zmL_22, zmR_22, zaL_22, zaR_22, zleL_22, zleR_22, zltL_22, zltR_22, zeq_22, zxl_22, zil_22, zmL_23, zmR_23, zaL_23, zaR_23, zleL_23, zleR_23, zltL_23, zltR_23, zeq_23, zxl_23, zil_23, zmL_24, zmR_24, zaL_24, zaR_24, zleL_24, zleR_24, zltL_24, zltR_24, zeq_24, zxl_24, zil_24, zmL_25, zmR_25, zaL_25, zaR_25, zleL_25, zleR_25, zltL_25, zltR_25, zeq_25, zxl_25, zil_25, zmL_26, zmR_26, zaL_26, zaR_26, zleL_26, zleR_26, zltL_26, zltR_26, zeq_26, zxl_26, zil_26, zmL_32, zmR_32, zaL_32, zaR_32, zleL_32, zleR_32, zltL_32, zltR_32, zeq_32, zxl_32, zil_32, zmL_40, zmR_40, zaL_40, zaR_40, zleL_40, zleR_40, zltL_40, zltR_40, zeq_40, zxl_40, zil_40, zmL_49, zmR_49, zaL_49, zaR_49, zleL_49, zleR_49, zltL_49, zltR_49, zeq_49, zxl_49, zil_49, zmL_58, zmR_58, zaL_58, zaR_58, zleL_58, zleR_58, zltL_58, zltR_58, zeq_58, zxl_58, zil_58, zmL_99, zmR_99, zaL_99, zaR_99, zleL_99, zleR_99, zltL_99, zltR_99, zeq_99, zxl_99, zil_99, zmL_100, zmR_100, zaL_100, zaR_100, zleL_100, zleR_100, zltL_100, zltR_100, zeq_100, zxl_100, zil_100, zmL_107, zmR_107, zaL_107, zaR_107, zleL_107, zleR_107, zltL_107, zltR_107, zeq_107, zxl_107, zil_107, zmL_126, zmR_126, zaL_126, zaR_126, zleL_126, zleR_126, zltL_126, zltR_126, zeq_126, zxl_126, zil_126, zmL_1000, zmR_1000, zaL_1000, zaR_1000, zleL_1000, zleR_1000, zltL_1000, zltR_1000, zeq_1000, zxl_1000, zil_1000, zmL_1605, zmR_1605, zaL_1605, zaR_1605, zleL_1605, zleR_1605, zltL_1605, zltR_1605, zeq_1605, zxl_1605, zil_1605, Bool.true_eq_false, if_false]
      rw [if_neg (show ¬ sv S p = 0 by omega), f1, zbind_s, f2, zbind_s, hm]; rfl
  · unfold g_X7_canVote
    rw [e_X7_twoN Cl.1 hx]
    refine okw_no I C (fun M => ?_)
    show g_X12_cast h 139 _ _ = _
    unfold g_X12_cast
    rw [zlet_e, e_X12_areAliveN (M.ml I).1 hx]; rfl
theorem ok_die (H : Rel h) (x : Int32) : OKw h (g_X11_die h 0 x) (fun h => g_X12_die h 139 x) := by
  refine okw H (fun R S pc pS Z I C M => ?_)
  have Cl := C.cl I
  have hn := I.1.1
  unfold g_X11_die
  simp only [zr_0_0, zr_0_1, zr_0_2, zr_0_3, zr_0_4, zr_0_5, zr_0_6, zr_0_7, zr_0_8, zr_1_0, zr_3_0, zr_3_1, zr_3_2, zr_3_3, zr_3_4, zr_3_5, zr_3_6, zr_10_0, zr_10_1, zr_13_0, zr_13_1, zr_13_4, zr_14_0, zr_14_1, zr_14_2, zr_14_3, zr_14_4, zr_14_5, zr_14_6, zr_21_0, zr_21_1, zr_24_0, zr_24_1, zr_24_2, zr_26_0, zr_26_1, zr_26_4, zr_27_0, zr_37_0, zr_37_1, zr_38_0, zr_44_0, zr_44_1, zr_44_2, zr_44_3, zr_45_0, zr_45_1, zr_52_0, zr_52_1, zr_59_0, zr_59_1, zr_66_0, zr_66_1, zr_73_0, zr_74_0, zr_74_1, zr_74_2, zr_74_3, zr_74_4, zr_74_5, zr_74_6, zr_74_7, zr_74_8, zr_74_9, zr_74_10, zr_74_11, zr_74_12, zr_74_13, zr_74_14, zr_74_15, zr_139_2, zr_139_10, zr_139_11, zr_139_12, zr_139_13, zr_139_14, zr_139_15, zr_139_16, zr_139_17, zr_139_18, zr_139_19, zr_139_20, zr_139_23, zr_139_24, zr_139_25, zr_139_26, zr_139_27, zr_139_28, zr_139_29, zr_139_30, zr_139_31, zr_139_32, zr_139_33, zr_139_34, zr_139_37, zr_139_38, zr_139_39, zr_139_40, zr_139_41, zr_139_42, zr_139_43, zr_139_44, zr_139_45, zr_139_46, zr_139_47, zr_139_48, zr_139_50]
  rcases zps_cases (rn R) (by omega) x with ⟨p, hp, rfl, e⟩ | ⟨hx, e⟩
  · rw [e_X7_isAlive Cl.1 (by omega)]
    simp only [zbind_s, zb_eq0]
    cases hc : al S p
    · simp only [if_true]
      refine okw_no I C (fun M => ?_)
      show g_X12_die h 139 _ = _
      unfold g_X12_die
      rw [zlet_e, e_X12_isPersonX (M.ml I).1, e, e_X12_isAlive (M.ml I).1 (by omega), hc]; rfl
    · simp only [Bool.true_eq_false, if_false]
      obtain ⟨h1, e1, C1, K1⟩ := C.keep I
      obtain ⟨h2, e2, C2, w2⟩ := e_X7_bury C1.1 hp
      obtain ⟨C3, w3⟩ := K1 _ h2 C2.2.2.2.2 w2
      rw [e1, zbind_s, e2]
      refine ⟨_, h2, _, _, _, _, rfl, C3, w3, fun M => ?_⟩
      obtain ⟨k1, f1, N1, L1⟩ := M.keep I
      obtain ⟨k2, f2, N2, u2⟩ := e_X12_dies N1.1 hp
      obtain ⟨N3, u3⟩ := L1 _ k2 N2.2.2.2 u2
      refine ⟨k2, ?_, I.keep N2.2.1, N3, u3⟩
      show g_X12_die h2 139 _ = _
      unfold g_X12_die
      rw [zlet_e, e_X12_isPersonX (M.ml I).1, e, e_X12_isAlive (M.ml I).1 (by omega), hc]
      simp only [Option.isSome, zbind_s, zb_eq0, Bool.true_eq_false, if_false]
      rw [f1, zbind_s, f2]; rfl
  · rw [e_X7_isAliveN Cl.1 hx]
    refine okw_no I C (fun M => ?_)
    show g_X12_die h 139 _ = _
    unfold g_X12_die
    rw [zlet_e, e_X12_isPersonX (M.ml I).1, e]; rfl
theorem ok_day (H : Rel h) : OKw h (g_X11_day h 0) (fun h => g_X12_day h 139) := by
  refine okw H (fun R S pc pS Z I C M => ?_)
  unfold g_X11_day
  simp only [zr_0_0, zr_0_1, zr_0_2, zr_0_3, zr_0_4, zr_0_5, zr_0_6, zr_0_7, zr_0_8, zr_1_0, zr_3_0, zr_3_1, zr_3_2, zr_3_3, zr_3_4, zr_3_5, zr_3_6, zr_10_0, zr_10_1, zr_13_0, zr_13_1, zr_13_4, zr_14_0, zr_14_1, zr_14_2, zr_14_3, zr_14_4, zr_14_5, zr_14_6, zr_21_0, zr_21_1, zr_24_0, zr_24_1, zr_24_2, zr_26_0, zr_26_1, zr_26_4, zr_27_0, zr_37_0, zr_37_1, zr_38_0, zr_44_0, zr_44_1, zr_44_2, zr_44_3, zr_45_0, zr_45_1, zr_52_0, zr_52_1, zr_59_0, zr_59_1, zr_66_0, zr_66_1, zr_73_0, zr_74_0, zr_74_1, zr_74_2, zr_74_3, zr_74_4, zr_74_5, zr_74_6, zr_74_7, zr_74_8, zr_74_9, zr_74_10, zr_74_11, zr_74_12, zr_74_13, zr_74_14, zr_74_15, zr_139_2, zr_139_10, zr_139_11, zr_139_12, zr_139_13, zr_139_14, zr_139_15, zr_139_16, zr_139_17, zr_139_18, zr_139_19, zr_139_20, zr_139_23, zr_139_24, zr_139_25, zr_139_26, zr_139_27, zr_139_28, zr_139_29, zr_139_30, zr_139_31, zr_139_32, zr_139_33, zr_139_34, zr_139_37, zr_139_38, zr_139_39, zr_139_40, zr_139_41, zr_139_42, zr_139_43, zr_139_44, zr_139_45, zr_139_46, zr_139_47, zr_139_48, zr_139_50]
  obtain ⟨h1, e1, C1, K1⟩ := C.keep I
  obtain ⟨h2, e2, C2, w2⟩ := e_X7_passDay C1.1 I.1.2.2.1 I.1.2.2.2
  obtain ⟨C3, w3⟩ := K1 _ h2 C2.2.2.2.2 w2
  rw [e1, zbind_s, C1.1.bar, e2]
  refine ⟨_, h2, _, _, _, _, rfl, C3, w3, fun M => ?_⟩
  obtain ⟨k1, f1, N1, L1⟩ := M.keep I
  obtain ⟨k2, f2, N2, u2⟩ := e_X12_passes N1.1 I.1.2.2.1 I.1.2.2.2
  obtain ⟨N3, u3⟩ := L1 _ k2 N2.2.2.2 u2
  refine ⟨k2, ?_, I.keep N2.2.1, N3, u3⟩
  show g_X12_day h2 139 = _
  unfold g_X12_day
  rw [zlet_e, f1, zbind_s]
  simp (disch := omega) only [N1.1.bar, zr_0_0, zr_0_1, zr_0_2, zr_0_3, zr_0_4, zr_0_5, zr_0_6, zr_0_7, zr_0_8, zr_1_0, zr_3_0, zr_3_1, zr_3_2, zr_3_3, zr_3_4, zr_3_5, zr_3_6, zr_10_0, zr_10_1, zr_13_0, zr_13_1, zr_13_4, zr_14_0, zr_14_1, zr_14_2, zr_14_3, zr_14_4, zr_14_5, zr_14_6, zr_21_0, zr_21_1, zr_24_0, zr_24_1, zr_24_2, zr_26_0, zr_26_1, zr_26_4, zr_27_0, zr_37_0, zr_37_1, zr_38_0, zr_44_0, zr_44_1, zr_44_2, zr_44_3, zr_45_0, zr_45_1, zr_52_0, zr_52_1, zr_59_0, zr_59_1, zr_66_0, zr_66_1, zr_73_0, zr_74_0, zr_74_1, zr_74_2, zr_74_3, zr_74_4, zr_74_5, zr_74_6, zr_74_7, zr_74_8, zr_74_9, zr_74_10, zr_74_11, zr_74_12, zr_74_13, zr_74_14, zr_74_15, zr_139_2, zr_139_10, zr_139_11, zr_139_12, zr_139_13, zr_139_14, zr_139_15, zr_139_16, zr_139_17, zr_139_18, zr_139_19, zr_139_20, zr_139_23, zr_139_24, zr_139_25, zr_139_26, zr_139_27, zr_139_28, zr_139_29, zr_139_30, zr_139_31, zr_139_32, zr_139_33, zr_139_34, zr_139_37, zr_139_38, zr_139_39, zr_139_40, zr_139_41, zr_139_42, zr_139_43, zr_139_44, zr_139_45, zr_139_46, zr_139_47, zr_139_48, zr_139_50, zin_t, zx_nI, nI_add, nI_mul, znI_le, znI_lt, znI_eq, znI_neg, zgu_t, zgu_f, zbind_s, zlet_e, zb_eq0, zb_eq1, zb_t, zb_f, zleL_0, zleR_0, zltL_0, zltR_0, zeq_0, zxl_0, zil_0, zmL_1, zmR_1, zaL_1, zaR_1, zleL_1, zleR_1, zltL_1, zltR_1, zeq_1, zxl_1, zil_1, zmL_2, zmR_2, zaL_2, zaR_2, zleL_2, zleR_2, zltL_2, zltR_2, zeq_2, zxl_2, zil_2, zmL_3, zmR_3, zaL_3, zaR_3, zleL_3, zleR_3, zltL_3, zltR_3, zeq_3, zxl_3, zil_3, zmL_4, zmR_4, zaL_4, zaR_4, zleL_4, zleR_4, zltL_4, zltR_4, zeq_4, zxl_4, zil_4, zmL_5, zmR_5, zaL_5, zaR_5, zleL_5, zleR_5, zltL_5, zltR_5, zeq_5, zxl_5, zil_5, zmL_6, zmR_6, zaL_6, zaR_6, zleL_6, zleR_6, zltL_6, zltR_6, zeq_6, zxl_6, zil_6, zmL_7, zmR_7, zaL_7, zaR_7, zleL_7, zleR_7, zltL_7, zltR_7, zeq_7, zxl_7, zil_7, zmL_8, zmR_8, zaL_8, zaR_8, zleL_8, zleR_8, zltL_8, zltR_8, zeq_8, zxl_8, zil_8, zmL_9, zmR_9, zaL_9, zaR_9, zleL_9, zleR_9, zltL_9, zltR_9, zeq_9, zxl_9, zil_9, zmL_10, zmR_10, zaL_10, zaR_10, zleL_10, zleR_10, zltL_10, zltR_10, zeq_10, zxl_10, zil_10, zmL_14, zmR_14, zaL_14, zaR_14, zleL_14, zleR_14, zltL_14, zltR_14, zeq_14, zxl_14, zil_14, zmL_15, zmR_15, zaL_15, zaR_15, zleL_15, zleR_15, zltL_15, zltR_15, zeq_15, zxl_15, zil_15, zmL_16, zmR_16, zaL_16, zaR_16, zleL_16, zleR_16, zltL_16, zltR_16, zeq_16, zxl_16, zil_16, zmL_20, zmR_20, zaL_20, zaR_20, zleL_20, zleR_20, zltL_20, zltR_20, zeq_20, zxl_20, zil_20, zmL_22, zmR_22, zaL_22, zaR_22, zleL_22, zleR_22, zltL_22, zltR_22, zeq_22, zxl_22, zil_22, zmL_23, zmR_23, zaL_23, zaR_23, zleL_23, zleR_23, zltL_23, zltR_23, zeq_23, zxl_23, zil_23, zmL_24, zmR_24, zaL_24, zaR_24, zleL_24, zleR_24, zltL_24, zltR_24, zeq_24, zxl_24, zil_24, zmL_25, zmR_25, zaL_25, zaR_25, zleL_25, zleR_25, zltL_25, zltR_25, zeq_25, zxl_25, zil_25, zmL_26, zmR_26, zaL_26, zaR_26, zleL_26, zleR_26, zltL_26, zltR_26, zeq_26, zxl_26, zil_26, zmL_32, zmR_32, zaL_32, zaR_32, zleL_32, zleR_32, zltL_32, zltR_32, zeq_32, zxl_32, zil_32, zmL_40, zmR_40, zaL_40, zaR_40, zleL_40, zleR_40, zltL_40, zltR_40, zeq_40, zxl_40, zil_40, zmL_49, zmR_49, zaL_49, zaR_49, zleL_49, zleR_49, zltL_49, zltR_49, zeq_49, zxl_49, zil_49, zmL_58, zmR_58, zaL_58, zaR_58, zleL_58, zleR_58, zltL_58, zltR_58, zeq_58, zxl_58, zil_58, zmL_99, zmR_99, zaL_99, zaR_99, zleL_99, zleR_99, zltL_99, zltR_99, zeq_99, zxl_99, zil_99, zmL_100, zmR_100, zaL_100, zaR_100, zleL_100, zleR_100, zltL_100, zltR_100, zeq_100, zxl_100, zil_100, zmL_107, zmR_107, zaL_107, zaR_107, zleL_107, zleR_107, zltL_107, zltR_107, zeq_107, zxl_107, zil_107, zmL_126, zmR_126, zaL_126, zaR_126, zleL_126, zleR_126, zltL_126, zltR_126, zeq_126, zxl_126, zil_126, zmL_1000, zmR_1000, zaL_1000, zaR_1000, zleL_1000, zleR_1000, zltL_1000, zltR_1000, zeq_1000, zxl_1000, zil_1000, zmL_1605, zmR_1605, zaL_1605, zaR_1605, zleL_1605, zleR_1605, zltL_1605, zltR_1605, zeq_1605, zxl_1605, zil_1605]
  rw [f2]; rfl
theorem ok_undo (H : Rel h) : OKb h (g_X11_undo h 0) (fun h => g_X12_undo h 139) := by
  refine okb H (fun R S pc pS Z I C M => ?_)
  have hn := I.1.1
  unfold g_X11_undo
  simp only [zr_0_0, zr_0_1, zr_0_2, zr_0_3, zr_0_4, zr_0_5, zr_0_6, zr_0_7, zr_0_8, zr_1_0, zr_3_0, zr_3_1, zr_3_2, zr_3_3, zr_3_4, zr_3_5, zr_3_6, zr_10_0, zr_10_1, zr_13_0, zr_13_1, zr_13_4, zr_14_0, zr_14_1, zr_14_2, zr_14_3, zr_14_4, zr_14_5, zr_14_6, zr_21_0, zr_21_1, zr_24_0, zr_24_1, zr_24_2, zr_26_0, zr_26_1, zr_26_4, zr_27_0, zr_37_0, zr_37_1, zr_38_0, zr_44_0, zr_44_1, zr_44_2, zr_44_3, zr_45_0, zr_45_1, zr_52_0, zr_52_1, zr_59_0, zr_59_1, zr_66_0, zr_66_1, zr_73_0, zr_74_0, zr_74_1, zr_74_2, zr_74_3, zr_74_4, zr_74_5, zr_74_6, zr_74_7, zr_74_8, zr_74_9, zr_74_10, zr_74_11, zr_74_12, zr_74_13, zr_74_14, zr_74_15, zr_139_2, zr_139_10, zr_139_11, zr_139_12, zr_139_13, zr_139_14, zr_139_15, zr_139_16, zr_139_17, zr_139_18, zr_139_19, zr_139_20, zr_139_23, zr_139_24, zr_139_25, zr_139_26, zr_139_27, zr_139_28, zr_139_29, zr_139_30, zr_139_31, zr_139_32, zr_139_33, zr_139_34, zr_139_37, zr_139_38, zr_139_39, zr_139_40, zr_139_41, zr_139_42, zr_139_43, zr_139_44, zr_139_45, zr_139_46, zr_139_47, zr_139_48, zr_139_50]
  rcases e_X3_bringBack hn C.2.2 z40 (by decide) with ⟨c0, e1⟩ | ⟨c0, h1, e1, P1, S1, w1⟩
  · rw [e1]
    refine okb_no I C (fun M => ?_)
    show g_X12_undo h 139 = _
    unfold g_X12_undo
    rw [zlet_e, M.2.2.1.2.1, c0]; rfl
  · rw [e1]
    refine ⟨true, h1, pS (pc - 1), pc - 1, pS, Z, rfl, ⟨C.1.same w1 (fun a k z => by unfold AO at z; unfold Acl; omega), S1, P1⟩, w1.mono (fun a k z => by unfold AO at z; unfold Alo; omega), fun M => ?_⟩
    obtain ⟨m1, m2, m3⟩ := M.2.2.1
    generalize hk : zpi h1 139 0 0 = k1 at *
    have wz : zsm (fun a k => a = 139 ∧ k = 49) k1 (zpi k1 139 49 (nI (pc - 1))) := zsm.pi ⟨rfl, rfl⟩
    obtain ⟨hc, ec, kc, wc⟩ := e_X12_copies (h := zpi k1 139 49 (nI (pc - 1))) (a := 174) (b := 171) (x := 107 * (pc - 1)) (y := 0) (n0 := 1712) (n2 := 107) (by decide) (by omega) (by omega) (by omega) (by omega)
    have wa : zsm (fun a k => (a = 139 ∧ k = 49) ∨ AR 171 0 107 a k) k1 hc := (wz.mono (fun a k z => Or.inl z)).tr (wc.mono (fun a k z => Or.inr z))
    refine ⟨hc, ?_, ⟨I.1, I.2.2.1 (pc - 1) (by omega), fun i hi => I.2.2.1 i (by omega), I.2.2.2⟩, ⟨M.1.same wa (fun a k z => by unfold AR at z; unfold Amo; omega), ?_, ⟨by omega, ?_, ?_⟩, M.2.2.2.same wa (fun k => by unfold AR; omega)⟩, wa.mono (fun a k z => by unfold AR at z; unfold Ahi; omega)⟩
    · show g_X12_undo h1 139 = _
      unfold g_X12_undo
      rw [zlet_e, hk, m2, if_neg (by rw [zeq_0 (by omega)]; omega), zlet_e, nI_s1 c0]
      have e2 : (107 : Int32) * nI (pc - 1) = nI (107 * (pc - 1)) := zmL_107 _
      simp only [zpi_r, and_self, if_true, e2, zr_0_0, zr_0_1, zr_0_2, zr_0_3, zr_0_4, zr_0_5, zr_0_6, zr_0_7, zr_0_8, zr_1_0, zr_3_0, zr_3_1, zr_3_2, zr_3_3, zr_3_4, zr_3_5, zr_3_6, zr_10_0, zr_10_1, zr_13_0, zr_13_1, zr_13_4, zr_14_0, zr_14_1, zr_14_2, zr_14_3, zr_14_4, zr_14_5, zr_14_6, zr_21_0, zr_21_1, zr_24_0, zr_24_1, zr_24_2, zr_26_0, zr_26_1, zr_26_4, zr_27_0, zr_37_0, zr_37_1, zr_38_0, zr_44_0, zr_44_1, zr_44_2, zr_44_3, zr_45_0, zr_45_1, zr_52_0, zr_52_1, zr_59_0, zr_59_1, zr_66_0, zr_66_1, zr_73_0, zr_74_0, zr_74_1, zr_74_2, zr_74_3, zr_74_4, zr_74_5, zr_74_6, zr_74_7, zr_74_8, zr_74_9, zr_74_10, zr_74_11, zr_74_12, zr_74_13, zr_74_14, zr_74_15, zr_139_2, zr_139_10, zr_139_11, zr_139_12, zr_139_13, zr_139_14, zr_139_15, zr_139_16, zr_139_17, zr_139_18, zr_139_19, zr_139_20, zr_139_23, zr_139_24, zr_139_25, zr_139_26, zr_139_27, zr_139_28, zr_139_29, zr_139_30, zr_139_31, zr_139_32, zr_139_33, zr_139_34, zr_139_37, zr_139_38, zr_139_39, zr_139_40, zr_139_41, zr_139_42, zr_139_43, zr_139_44, zr_139_45, zr_139_46, zr_139_47, zr_139_48, zr_139_50]
      have ec : g_X12_copies (zpi k1 139 49 (nI (pc - 1))) 174 1712 (nI (107 * (pc - 1))) 171 107 0 = some hc := ec
      rw [ec]; rfl
    · exact ((m3 (pc - 1) (by omega)).same wz (fun k z => by omega)).copy hn kc
    · rw [(wc 139 49 (by unfold AR; omega)).1, zpi_r, if_pos ⟨rfl, rfl⟩]
    · intro i hi
      exact (m3 i (by omega)).same wa (fun k => by unfold AR; omega)
end O3
