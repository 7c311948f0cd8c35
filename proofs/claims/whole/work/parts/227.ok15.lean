/-! ages: days by draws -/
def dnx (g : Nat) : Nat := (g * 1103515245 + 12345) % 2147483648
def dvl (g b : Nat) : Nat := g / 65536 % b
theorem dnx_lt (g : Nat) : dnx g < 2147483648 := Nat.mod_lt _ (by decide)
theorem lL_1 : (1103515245 : Int64) = lN 1103515245 := rfl
theorem lL_2 : (12345 : Int64) = lN 12345 := rfl
theorem lL_3 : (2147483648 : Int64) = lN 2147483648 := rfl
theorem lL_4 : (65536 : Int64) = lN 65536 := rfl
theorem e_dnx {g : Nat} (hg : g < 2147483648) : ((lN g * 1103515245) + 12345) - ((lN g * 1103515245) + 12345) / 2147483648 * 2147483648 = lN (dnx g) := by
  rw [lL_1, lL_2, lL_3, lN_mul, lN_add]
  exact pk_lRem (by omega) (by decide) (by decide)
theorem e_dvl {g b : Nat} (hg : g < 2147483648) (h0 : 0 < b) (hb : b < 2147483648) : ((lN g / 65536) - (lN g / 65536) / (nI b).toInt64 * (nI b).toInt64).toInt32 = nI (dvl g b) := by
  rw [lL_4, pk_lDiv (by omega) (by decide) (by decide), nI_l (by omega)]
  have h1 : g / 65536 ≤ g := Nat.div_le_self _ _
  rw [pk_lRem (by omega) h0 (by omega), lN_i]; rfl
theorem e_nz {b : Nat} (h0 : 0 < b) (hb : b < 2147483648) : ((nI b).toInt64 != 0) = true := by
  rw [nI_l (by omega)]
  have : ¬ lN b = lN 0 := fun z => by rw [pk_lEQ (by omega) (by decide)] at z; omega
  simp only [bne_iff_ne, ne_eq]
  exact this
section P7
variable {R : zRp} {S S' S0 : zSt} {pc pc' : Nat} {pS pS' : Nat → zSt} {Z : zZ} {h h' h1 h2 : zH} {t : Nat} {D : zHd} {Y : zY} {A : Nat → Nat → Prop}
def A0 : Nat → Nat → Prop := fun a _ => a = 0
theorem CL.z0 (H : CL R S h 33) (x : zsm A0 h h') : CL R S h' 33 :=
  ⟨⟨H.1.1, H.1.2.1, z33, RC.same3 (A := A0) H.1.2.2.2.1 x (fun a b ha hb => by unfold A0; omega), SC.same (A := A0) H.1.2.2.2.2 x (fun a b ha hb => by unfold A0; omega)⟩, LC.same (A := A0) H.2 x (fun k => by unfold A0; omega) (fun k hk => by unfold A0; omega)⟩
def A51 : Nat → Nat → Prop := fun a k => a = 139 ∧ k = 51
theorem ML.z51 (H : ML R S h) (x : zsm A51 h h') : ML R S h' := ML.same (A := A51) H x (fun a k ha hb => by unfold A51; omega) (fun k => by unfold A51; omega) (fun k => by unfold A51; omega)
theorem e_draw {g b : Nat} (hg : g < 2147483648) (h0 : 0 < b) (hb : b < 2147483648) (e : h.2 0 9 = lN g) : ∃ h', g_X11_drawBelow h 0 (nI b) = some (nI (dvl (dnx g) b), h') ∧ h'.2 0 9 = lN (dnx g) ∧ zsm A0 h h' := by
  refine ⟨zpl h 0 9 (lN (dnx g)), ?_, by rw [zpl_r, if_pos ⟨rfl, rfl⟩], zsm.pl rfl⟩
  unfold g_X11_drawBelow
  rw [e, e_dnx hg, zlet_e, if_neg (by rw [zleR_0 hb]; omega), zpl_r, if_pos ⟨rfl, rfl⟩, e_nz h0 hb, zgu_t, e_dvl (dnx_lt g) h0 hb]
theorem e_draws {g b : Nat} (hg : g < 2147483648) (h0 : 0 < b) (hb : b < 2147483648) (e : h.2 139 51 = lN g) : ∃ h', g_X12_draws h 139 (nI b) = some (nI (dvl (dnx g) b), h') ∧ h'.2 139 51 = lN (dnx g) ∧ zsm A51 h h' := by
  refine ⟨zpl h 139 51 (lN (dnx g)), ?_, by rw [zpl_r, if_pos ⟨rfl, rfl⟩], zsm.pl ⟨rfl, rfl⟩⟩
  unfold g_X12_draws
  rw [e, e_dnx hg, zlet_e, zpl_r, if_pos ⟨rfl, rfl⟩, e_nz h0 hb, zgu_t, e_dvl (dnx_lt g) h0 hb]
/-- a death, if it's drawn; a tax, if it's drawn; a gift, if it can be -/
def id3 (R : zRp) (S : zSt) (a g : Nat) : zSt := if dvl g 20 = 0 then (if al S a then (ibu R S a).1 else S) else S
def id2 (R : zRp) (S : zSt) (g : Nat) : zSt := if dvl g 2 = 0 then itx R S else S
def id1 (R : zRp) (S : zSt) (a b : Nat) : zSt := if i2a S a b then igi R S a b else S
theorem c111 (H : CL R S h 33) : ∃ h', g_X11_passDrawnDay_111 0 h = some (nI (ipd R S (rb R)).2, h') ∧ CL R (ipd R S (rb R)).1 h' 33 ∧ zsm (AT 33) h h' := by
  obtain ⟨h2, e2, H2, w2⟩ := e_X7_passDay H.1 H.1.1.2.2.1 H.1.1.2.2.2
  refine ⟨h2, ?_, H.of H2 w2 (AT11 H.1).1 (AT11 H.1).2, w2⟩
  unfold g_X11_passDrawnDay_111
  simp only [zr_0_0, zr_0_1, zr_0_2, zr_0_3, zr_0_4, zr_0_5, zr_0_6, zr_0_7, zr_0_8, zr_1_0, zr_3_0, zr_3_1, zr_3_2, zr_3_3, zr_3_4, zr_3_5, zr_3_6, zr_10_0, zr_10_1, zr_13_0, zr_13_1, zr_13_4, zr_14_0, zr_14_1, zr_14_2, zr_14_3, zr_14_4, zr_14_5, zr_14_6, zr_21_0, zr_21_1, zr_24_0, zr_24_1, zr_24_2, zr_26_0, zr_26_1, zr_26_4, zr_27_0, zr_37_0, zr_37_1, zr_38_0, zr_44_0, zr_44_1, zr_44_2, zr_44_3, zr_45_0, zr_45_1, zr_52_0, zr_52_1, zr_59_0, zr_59_1, zr_66_0, zr_66_1, zr_73_0, zr_74_0, zr_74_1, zr_74_2, zr_74_3, zr_74_4, zr_74_5, zr_74_6, zr_74_7, zr_74_8, zr_74_9, zr_74_10, zr_74_11, zr_74_12, zr_74_13, zr_74_14, zr_74_15, zr_139_2, zr_139_10, zr_139_11, zr_139_12, zr_139_13, zr_139_14, zr_139_15, zr_139_16, zr_139_17, zr_139_18, zr_139_19, zr_139_20, zr_139_23, zr_139_24, zr_139_25, zr_139_26, zr_139_27, zr_139_28, zr_139_29, zr_139_30, zr_139_31, zr_139_32, zr_139_33, zr_139_34, zr_139_37, zr_139_38, zr_139_39, zr_139_40, zr_139_41, zr_139_42, zr_139_43, zr_139_44, zr_139_45, zr_139_46, zr_139_47, zr_139_48, zr_139_50]
  have b8 : h.1 3 8 = nI (rb R) := H.1.bar
  rw [b8, e2]; rfl
theorem n9 {w : zsm (AT 33) h h'} {g : Nat} (e : h.2 0 9 = lN g) : h'.2 0 9 = lN g := by rw [(w 0 9 (by unfold AT; omega)).2]; exact e
theorem c82 (H : CL R S h 33) {a g : Nat} (ha : a < rn R) (hg : g < 2147483648) (e : h.2 0 9 = lN g) : ∃ h', g_X11_passDrawnDay_82 0 (nI a) h = some (nI (ipd R (id3 R S a (dnx g)) (rb R)).2, h') ∧ CL R (ipd R (id3 R S a (dnx g)) (rb R)).1 h' 33 ∧ zsm A33 h h' ∧ h'.2 0 9 = lN (dnx g) := by
  have hn := H.1.n7
  obtain ⟨h1, e1, d1, w1⟩ := e_draw (b := 20) hg (by decide) (by decide) e
  have H1 := H.z0 w1
  have w1' : zsm A33 h h1 := w1.mono (fun a k z => by unfold A0 at z; unfold A33; omega)
  have e1 : g_X11_drawBelow h 0 20 = some (nI (dvl (dnx g) 20), h1) := e1
  have l20 : dvl (dnx g) 20 < 20 := Nat.mod_lt _ (by decide)
  have fin : ∀ {S2 : zSt} {h2 : zH}, CL R S2 h2 33 → zsm A33 h h2 → h2.2 0 9 = lN (dnx g) → ∃ h', g_X11_passDrawnDay_111 0 h2 = some (nI (ipd R S2 (rb R)).2, h') ∧ CL R (ipd R S2 (rb R)).1 h' 33 ∧ zsm A33 h h' ∧ h'.2 0 9 = lN (dnx g) := by
    intro S2 h2 H2 w2 d2
    obtain ⟨h3, e3, H3, w3⟩ := c111 H2
    exact ⟨h3, e3, H3, w2.tr (w3.mono (fun a k z => AT33 z)), n9 (w := w3) d2⟩
  unfold g_X11_passDrawnDay_82 id3
  simp only [zr_0_0, zr_0_1, zr_0_2, zr_0_3, zr_0_4, zr_0_5, zr_0_6, zr_0_7, zr_0_8, zr_1_0, zr_3_0, zr_3_1, zr_3_2, zr_3_3, zr_3_4, zr_3_5, zr_3_6, zr_10_0, zr_10_1, zr_13_0, zr_13_1, zr_13_4, zr_14_0, zr_14_1, zr_14_2, zr_14_3, zr_14_4, zr_14_5, zr_14_6, zr_21_0, zr_21_1, zr_24_0, zr_24_1, zr_24_2, zr_26_0, zr_26_1, zr_26_4, zr_27_0, zr_37_0, zr_37_1, zr_38_0, zr_44_0, zr_44_1, zr_44_2, zr_44_3, zr_45_0, zr_45_1, zr_52_0, zr_52_1, zr_59_0, zr_59_1, zr_66_0, zr_66_1, zr_73_0, zr_74_0, zr_74_1, zr_74_2, zr_74_3, zr_74_4, zr_74_5, zr_74_6, zr_74_7, zr_74_8, zr_74_9, zr_74_10, zr_74_11, zr_74_12, zr_74_13, zr_74_14, zr_74_15, zr_139_2, zr_139_10, zr_139_11, zr_139_12, zr_139_13, zr_139_14, zr_139_15, zr_139_16, zr_139_17, zr_139_18, zr_139_19, zr_139_20, zr_139_23, zr_139_24, zr_139_25, zr_139_26, zr_139_27, zr_139_28, zr_139_29, zr_139_30, zr_139_31, zr_139_32, zr_139_33, zr_139_34, zr_139_37, zr_139_38, zr_139_39, zr_139_40, zr_139_41, zr_139_42, zr_139_43, zr_139_44, zr_139_45, zr_139_46, zr_139_47, zr_139_48, zr_139_50]
  rw [e1, zbind_s]
  simp only [zeq_0 (show dvl (dnx g) 20 < 2147483648 by omega)]
  by_cases c : dvl (dnx g) 20 = 0
  · simp only [if_pos c]
    rw [e_X7_isAlive H1.1 (by omega), zbind_s]
    simp only [zb_eq0]
    cases hal : al S a
    · simp only [if_true, Bool.false_eq_true, if_false]
      exact fin H1 w1' d1
    · simp only [if_true, Bool.true_eq_false, if_false]
      obtain ⟨h2, e2, H2, w2⟩ := e_X7_bury H1.1 ha
      rw [e2, zbind_s]
      exact fin (H1.of H2 w2 (AT11 H1.1).1 (AT11 H1.1).2) (w1'.tr (w2.mono (fun a k z => AT33 z))) (n9 (w := w2) d1)
  · simp only [if_neg c]
    exact fin H1 w1' d1
theorem c56 (H : CL R S h 33) {a g : Nat} (ha : a < rn R) (hg : g < 2147483648) (e : h.2 0 9 = lN g) : ∃ h', g_X11_passDrawnDay_56 0 (nI a) h = some (nI (ipd R (id3 R (id2 R S (dnx g)) a (dnx (dnx g))) (rb R)).2, h') ∧ CL R (ipd R (id3 R (id2 R S (dnx g)) a (dnx (dnx g))) (rb R)).1 h' 33 ∧ zsm A33 h h' ∧ h'.2 0 9 = lN (dnx (dnx g)) := by
  have hn := H.1.n7
  obtain ⟨h1, e1, d1, w1⟩ := e_draw (b := 2) hg (by decide) (by decide) e
  have H1 := H.z0 w1
  have w1' : zsm A33 h h1 := w1.mono (fun a k z => by unfold A0 at z; unfold A33; omega)
  have e1 : g_X11_drawBelow h 0 2 = some (nI (dvl (dnx g) 2), h1) := e1
  have l2 : dvl (dnx g) 2 < 2 := Nat.mod_lt _ (by decide)
  have fin : ∀ {S2 : zSt} {h2 : zH}, CL R S2 h2 33 → zsm A33 h h2 → h2.2 0 9 = lN (dnx g) → ∃ h', g_X11_passDrawnDay_82 0 (nI a) h2 = some (nI (ipd R (id3 R S2 a (dnx (dnx g))) (rb R)).2, h') ∧ CL R (ipd R (id3 R S2 a (dnx (dnx g))) (rb R)).1 h' 33 ∧ zsm A33 h h' ∧ h'.2 0 9 = lN (dnx (dnx g)) := by
    intro S2 h2 H2 w2 d2
    obtain ⟨h3, e3, H3, w3, d3⟩ := c82 H2 ha (dnx_lt g) d2
    exact ⟨h3, e3, H3, w2.tr w3, d3⟩
  unfold g_X11_passDrawnDay_56 id2
  simp only [zr_0_0, zr_0_1, zr_0_2, zr_0_3, zr_0_4, zr_0_5, zr_0_6, zr_0_7, zr_0_8, zr_1_0, zr_3_0, zr_3_1, zr_3_2, zr_3_3, zr_3_4, zr_3_5, zr_3_6, zr_10_0, zr_10_1, zr_13_0, zr_13_1, zr_13_4, zr_14_0, zr_14_1, zr_14_2, zr_14_3, zr_14_4, zr_14_5, zr_14_6, zr_21_0, zr_21_1, zr_24_0, zr_24_1, zr_24_2, zr_26_0, zr_26_1, zr_26_4, zr_27_0, zr_37_0, zr_37_1, zr_38_0, zr_44_0, zr_44_1, zr_44_2, zr_44_3, zr_45_0, zr_45_1, zr_52_0, zr_52_1, zr_59_0, zr_59_1, zr_66_0, zr_66_1, zr_73_0, zr_74_0, zr_74_1, zr_74_2, zr_74_3, zr_74_4, zr_74_5, zr_74_6, zr_74_7, zr_74_8, zr_74_9, zr_74_10, zr_74_11, zr_74_12, zr_74_13, zr_74_14, zr_74_15, zr_139_2, zr_139_10, zr_139_11, zr_139_12, zr_139_13, zr_139_14, zr_139_15, zr_139_16, zr_139_17, zr_139_18, zr_139_19, zr_139_20, zr_139_23, zr_139_24, zr_139_25, zr_139_26, zr_139_27, zr_139_28, zr_139_29, zr_139_30, zr_139_31, zr_139_32, zr_139_33, zr_139_34, zr_139_37, zr_139_38, zr_139_39, zr_139_40, zr_139_41, zr_139_42, zr_139_43, zr_139_44, zr_139_45, zr_139_46, zr_139_47, zr_139_48, zr_139_50]
  rw [e1, zbind_s]
  simp only [zeq_0 (show dvl (dnx g) 2 < 2147483648 by omega)]
  by_cases c : dvl (dnx g) 2 = 0
  · simp only [if_pos c]
    rw [e_X7_canLevy H1.1, zbind_s]
    simp only [zb_eq0]
    cases hct : ict R S
    · simp only [if_true]
      have ei : itx R S = S := by unfold itx; rw [hct]; rfl
      rw [ei]
      exact fin H1 w1' d1
    · simp only [Bool.true_eq_false, if_false]
      obtain ⟨gg, hgg⟩ := ict_some hct
      obtain ⟨h2, e2, H2, w2⟩ := e_X7_levy H1 hgg
      have ei : itx R S = (ilv R S gg).1 := by unfold itx; rw [hct, hgg]; rfl
      rw [e2, zbind_s, ei]
      exact fin H2 (w1'.tr (w2.mono (fun a k z => AT33 z))) (n9 (w := w2) d1)
  · simp only [if_neg c]
    exact fin H1 w1' d1
/-- a day by draws: how it is then, the draws' number, the votes -/
def idr (R : zRp) (s : zSt × Nat) : (zSt × Nat) × Nat := if rn R = 0 then (((ipd R s.1 (rb R)).1, s.2), (ipd R s.1 (rb R)).2) else
  (((ipd R (id3 R (id2 R (id1 R s.1 (dvl (dnx s.2) (rn R)) (dvl (dnx (dnx s.2)) (rn R))) (dnx (dnx (dnx s.2)))) (dvl (dnx s.2) (rn R)) (dnx (dnx (dnx (dnx s.2))))) (rb R)).1, dnx (dnx (dnx (dnx s.2)))), (ipd R (id3 R (id2 R (id1 R s.1 (dvl (dnx s.2) (rn R)) (dvl (dnx (dnx s.2)) (rn R))) (dnx (dnx (dnx s.2)))) (dvl (dnx s.2) (rn R)) (dnx (dnx (dnx (dnx s.2))))) (rb R)).2)
theorem e_drawnDay (H : CL R S h 33) {g : Nat} (hg : g < 2147483648) (e : h.2 0 9 = lN g) : ∃ h', g_X11_passDrawnDay h 0 = some (nI (idr R (S, g)).2, h') ∧ CL R (idr R (S, g)).1.1 h' 33 ∧ zsm A33 h h' ∧ h'.2 0 9 = lN (idr R (S, g)).1.2 ∧ (idr R (S, g)).1.2 < 2147483648 := by
  have hn := H.1.n7
  have b7 : h.1 3 7 = nI (rn R) := H.1.n
  unfold g_X11_passDrawnDay idr
  simp only [zr_0_0, zr_0_1, zr_0_2, zr_0_3, zr_0_4, zr_0_5, zr_0_6, zr_0_7, zr_0_8, zr_1_0, zr_3_0, zr_3_1, zr_3_2, zr_3_3, zr_3_4, zr_3_5, zr_3_6, zr_10_0, zr_10_1, zr_13_0, zr_13_1, zr_13_4, zr_14_0, zr_14_1, zr_14_2, zr_14_3, zr_14_4, zr_14_5, zr_14_6, zr_21_0, zr_21_1, zr_24_0, zr_24_1, zr_24_2, zr_26_0, zr_26_1, zr_26_4, zr_27_0, zr_37_0, zr_37_1, zr_38_0, zr_44_0, zr_44_1, zr_44_2, zr_44_3, zr_45_0, zr_45_1, zr_52_0, zr_52_1, zr_59_0, zr_59_1, zr_66_0, zr_66_1, zr_73_0, zr_74_0, zr_74_1, zr_74_2, zr_74_3, zr_74_4, zr_74_5, zr_74_6, zr_74_7, zr_74_8, zr_74_9, zr_74_10, zr_74_11, zr_74_12, zr_74_13, zr_74_14, zr_74_15, zr_139_2, zr_139_10, zr_139_11, zr_139_12, zr_139_13, zr_139_14, zr_139_15, zr_139_16, zr_139_17, zr_139_18, zr_139_19, zr_139_20, zr_139_23, zr_139_24, zr_139_25, zr_139_26, zr_139_27, zr_139_28, zr_139_29, zr_139_30, zr_139_31, zr_139_32, zr_139_33, zr_139_34, zr_139_37, zr_139_38, zr_139_39, zr_139_40, zr_139_41, zr_139_42, zr_139_43, zr_139_44, zr_139_45, zr_139_46, zr_139_47, zr_139_48, zr_139_50]
  rw [b7]
  by_cases c : rn R = 0
  · simp only [if_pos c]
    rw [if_pos (by rw [c]; decide)]
    obtain ⟨h1, e1, H1, w1⟩ := c111 H
    exact ⟨h1, e1, H1, w1.mono (fun a k z => AT33 z), n9 (w := w1) e, hg⟩
  · simp only [if_neg c]
    rw [if_neg (by rw [zleR_0 (by omega)]; omega)]
    obtain ⟨h1, e1, d1, w1⟩ := e_draw (b := rn R) hg (by omega) (by omega) e
    have H1 := H.z0 w1
    have b71 : h1.1 3 7 = nI (rn R) := H1.1.n
    obtain ⟨h2, e2, d2, w2⟩ := e_draw (b := rn R) (dnx_lt g) (by omega) (by omega) d1
    have H2 := H1.z0 w2
    have w12 : zsm A33 h h2 := (w1.tr w2).mono (fun a k z => by unfold A0 at z; unfold A33; omega)
    have la : dvl (dnx g) (rn R) < rn R := Nat.mod_lt _ (by omega)
    have lb : dvl (dnx (dnx g)) (rn R) < rn R := Nat.mod_lt _ (by omega)
    rw [e1, zbind_s]
    simp only
    rw [b71, e2, zbind_s]
    simp only
    rw [e_X7_two H2.1 (by omega) (by omega), zbind_s]
    simp only [zb_eq0]
    have fin : ∀ {S2 : zSt} {h3 : zH}, CL R S2 h3 33 → zsm A33 h h3 → h3.2 0 9 = lN (dnx (dnx g)) → ∃ h', g_X11_passDrawnDay_56 0 (nI (dvl (dnx g) (rn R))) h3 = some (nI (ipd R (id3 R (id2 R S2 (dnx (dnx (dnx g)))) (dvl (dnx g) (rn R)) (dnx (dnx (dnx (dnx g))))) (rb R)).2, h') ∧ CL R (ipd R (id3 R (id2 R S2 (dnx (dnx (dnx g)))) (dvl (dnx g) (rn R)) (dnx (dnx (dnx (dnx g))))) (rb R)).1 h' 33 ∧ zsm A33 h h' ∧ h'.2 0 9 = lN (dnx (dnx (dnx (dnx g)))) ∧ dnx (dnx (dnx (dnx g))) < 2147483648 := by
      intro S2 h3 H3 w3 d3
      obtain ⟨h4, e4, H4, w4, d4⟩ := c56 H3 la (dnx_lt _) d3
      exact ⟨h4, e4, H4, w3.tr w4, d4, dnx_lt _⟩
    unfold id1
    cases hc : i2a S (dvl (dnx g) (rn R)) (dvl (dnx (dnx g)) (rn R))
    · simp only [if_true, Bool.false_eq_true, if_false]
      exact fin H2 w12 d2
    · simp only [if_true, Bool.true_eq_false, if_false]
      obtain ⟨h3, e3, H3, w3⟩ := e_X7_give H2 la lb
      rw [e3, zbind_s]
      exact fin H3 (w12.tr (w3.mono (fun a k z => AT33 z))) (n9 (w := w3) d2)
theorem m88 (H : ML R S h) : ∃ h', g_X12_livesDay_88 139 h = some (nI (ipd R S (rb R)).2, h') ∧ ML R (ipd R S (rb R)).1 h' ∧ zsm AM h h' := by
  obtain ⟨h2, e2, H2, w2⟩ := e_X12_passes H.1 H.1.1.2.2.1 H.1.1.2.2.2
  refine ⟨h2, ?_, H.of H2 w2, w2⟩
  unfold g_X12_livesDay_88
  simp (disch := omega) only [H.1.bar, zr_0_0, zr_0_1, zr_0_2, zr_0_3, zr_0_4, zr_0_5, zr_0_6, zr_0_7, zr_0_8, zr_1_0, zr_3_0, zr_3_1, zr_3_2, zr_3_3, zr_3_4, zr_3_5, zr_3_6, zr_10_0, zr_10_1, zr_13_0, zr_13_1, zr_13_4, zr_14_0, zr_14_1, zr_14_2, zr_14_3, zr_14_4, zr_14_5, zr_14_6, zr_21_0, zr_21_1, zr_24_0, zr_24_1, zr_24_2, zr_26_0, zr_26_1, zr_26_4, zr_27_0, zr_37_0, zr_37_1, zr_38_0, zr_44_0, zr_44_1, zr_44_2, zr_44_3, zr_45_0, zr_45_1, zr_52_0, zr_52_1, zr_59_0, zr_59_1, zr_66_0, zr_66_1, zr_73_0, zr_74_0, zr_74_1, zr_74_2, zr_74_3, zr_74_4, zr_74_5, zr_74_6, zr_74_7, zr_74_8, zr_74_9, zr_74_10, zr_74_11, zr_74_12, zr_74_13, zr_74_14, zr_74_15, zr_139_2, zr_139_10, zr_139_11, zr_139_12, zr_139_13, zr_139_14, zr_139_15, zr_139_16, zr_139_17, zr_139_18, zr_139_19, zr_139_20, zr_139_23, zr_139_24, zr_139_25, zr_139_26, zr_139_27, zr_139_28, zr_139_29, zr_139_30, zr_139_31, zr_139_32, zr_139_33, zr_139_34, zr_139_37, zr_139_38, zr_139_39, zr_139_40, zr_139_41, zr_139_42, zr_139_43, zr_139_44, zr_139_45, zr_139_46, zr_139_47, zr_139_48, zr_139_50, zin_t, zx_nI, nI_add, nI_mul, znI_le, znI_lt, znI_eq, znI_neg, zgu_t, zgu_f, zbind_s, zlet_e, zb_eq0, zb_eq1, zb_t, zb_f, zleL_0, zleR_0, zltL_0, zltR_0, zeq_0, zxl_0, zil_0, zmL_1, zmR_1, zaL_1, zaR_1, zleL_1, zleR_1, zltL_1, zltR_1, zeq_1, zxl_1, zil_1, zmL_2, zmR_2, zaL_2, zaR_2, zleL_2, zleR_2, zltL_2, zltR_2, zeq_2, zxl_2, zil_2, zmL_3, zmR_3, zaL_3, zaR_3, zleL_3, zleR_3, zltL_3, zltR_3, zeq_3, zxl_3, zil_3, zmL_4, zmR_4, zaL_4, zaR_4, zleL_4, zleR_4, zltL_4, zltR_4, zeq_4, zxl_4, zil_4, zmL_5, zmR_5, zaL_5, zaR_5, zleL_5, zleR_5, zltL_5, zltR_5, zeq_5, zxl_5, zil_5, zmL_6, zmR_6, zaL_6, zaR_6, zleL_6, zleR_6, zltL_6, zltR_6, zeq_6, zxl_6, zil_6, zmL_7, zmR_7, zaL_7, zaR_7, zleL_7, zleR_7, zltL_7, zltR_7, zeq_7, zxl_7, zil_7, zmL_8, zmR_8, zaL_8, zaR_8, zleL_8, zleR_8, zltL_8, zltR_8, zeq_8, zxl_8, zil_8, zmL_9, zmR_9, zaL_9, zaR_9, zleL_9, zleR_9, zltL_9, zltR_9, zeq_9, zxl_9, zil_9, zmL_10, zmR_10, zaL_10, zaR_10, zleL_10, zleR_10, zltL_10, zltR_10, zeq_10, zxl_10, zil_10, zmL_14, zmR_14, zaL_14, zaR_14, zleL_14, zleR_14, zltL_14, zltR_14, zeq_14, zxl_14, zil_14, zmL_15, zmR_15, zaL_15, zaR_15, zleL_15, zleR_15, zltL_15, zltR_15, zeq_15, zxl_15, zil_15, zmL_16, zmR_16, zaL_16, zaR_16, zleL_16, zleR_16, zltL_16, zltR_16, zeq_16, zxl_16, zil_16, zmL_20, zmR_20, zaL_20, zaR_20, zleL_20, zleR_20, zltL_20, zltR_20, zeq_20, zxl_20, zil_20, zmL_22, zmR_22, zaL_22, zaR_22, zleL_22, zleR_22, zltL_22, zltR_22, zeq_22, zxl_22, zil_22, zmL_23, zmR_23, zaL_23, zaR_23, zleL_23, zleR_23, zltL_23, zltR_23, zeq_23, zxl_23, zil_23, zmL_24, zmR_24, zaL_24, zaR_24, zleL_24, zleR_24, zltL_24, zltR_24, zeq_24, zxl_24, zil_24, zmL_25, zmR_25, zaL_25, zaR_25, zleL_25, zleR_25, zltL_25, zltR_25, zeq_25, zxl_25, zil_25, zmL_26, zmR_26, zaL_26, zaR_26, zleL_26, zleR_26, zltL_26, zltR_26, zeq_26, zxl_26, zil_26, zmL_32, zmR_32, zaL_32, zaR_32, zleL_32, zleR_32, zltL_32, zltR_32, zeq_32, zxl_32, zil_32, zmL_40, zmR_40, zaL_40, zaR_40, zleL_40, zleR_40, zltL_40, zltR_40, zeq_40, zxl_40, zil_40, zmL_49, zmR_49, zaL_49, zaR_49, zleL_49, zleR_49, zltL_49, zltR_49, zeq_49, zxl_49, zil_49, zmL_58, zmR_58, zaL_58, zaR_58, zleL_58, zleR_58, zltL_58, zltR_58, zeq_58, zxl_58, zil_58, zmL_99, zmR_99, zaL_99, zaR_99, zleL_99, zleR_99, zltL_99, zltR_99, zeq_99, zxl_99, zil_99, zmL_100, zmR_100, zaL_100, zaR_100, zleL_100, zleR_100, zltL_100, zltR_100, zeq_100, zxl_100, zil_100, zmL_107, zmR_107, zaL_107, zaR_107, zleL_107, zleR_107, zltL_107, zltR_107, zeq_107, zxl_107, zil_107, zmL_126, zmR_126, zaL_126, zaR_126, zleL_126, zleR_126, zltL_126, zltR_126, zeq_126, zxl_126, zil_126, zmL_1000, zmR_1000, zaL_1000, zaR_1000, zleL_1000, zleR_1000, zltL_1000, zltR_1000, zeq_1000, zxl_1000, zil_1000, zmL_1605, zmR_1605, zaL_1605, zaR_1605, zleL_1605, zleR_1605, zltL_1605, zltR_1605, zeq_1605, zxl_1605, zil_1605]
  rw [e2]; rfl
theorem n51 {w : zsm AM h h'} {g : Nat} (e : h.2 139 51 = lN g) : h'.2 139 51 = lN g := by rw [(w 139 51 (by unfold AM; omega)).2]; exact e
theorem m61 (H : ML R S h) {a g : Nat} (ha : a < rn R) (hg : g < 2147483648) (e : h.2 139 51 = lN g) : ∃ h', g_X12_livesDay_61 139 (nI a) h = some (nI (ipd R (id3 R S a (dnx g)) (rb R)).2, h') ∧ ML R (ipd R (id3 R S a (dnx g)) (rb R)).1 h' ∧ zsm (fun a k => AM a k ∨ A51 a k) h h' ∧ h'.2 139 51 = lN (dnx g) := by
  have hn := H.1.n7
  obtain ⟨h1, e1, d1, w1⟩ := e_draws (b := 20) hg (by decide) (by decide) e
  have H1 := H.z51 w1
  have w1' : zsm (fun a k => AM a k ∨ A51 a k) h h1 := w1.mono (fun a k z => Or.inr z)
  have e1 : g_X12_draws h 139 20 = some (nI (dvl (dnx g) 20), h1) := e1
  have l20 : dvl (dnx g) 20 < 20 := Nat.mod_lt _ (by decide)
  have fin : ∀ {S2 : zSt} {h2 : zH}, ML R S2 h2 → zsm (fun a k => AM a k ∨ A51 a k) h h2 → h2.2 139 51 = lN (dnx g) → ∃ h', g_X12_livesDay_88 139 h2 = some (nI (ipd R S2 (rb R)).2, h') ∧ ML R (ipd R S2 (rb R)).1 h' ∧ zsm (fun a k => AM a k ∨ A51 a k) h h' ∧ h'.2 139 51 = lN (dnx g) := by
    intro S2 h2 H2 w2 d2
    obtain ⟨h3, e3, H3, w3⟩ := m88 H2
    exact ⟨h3, e3, H3, w2.tr (w3.mono (fun a k z => Or.inl z)), n51 (w := w3) d2⟩
  unfold g_X12_livesDay_61 id3
  rw [e1, zbind_s]
  simp only [zeq_0 (show dvl (dnx g) 20 < 2147483648 by omega)]
  by_cases c : dvl (dnx g) 20 = 0
  · simp only [if_pos c]
    rw [if_neg (nI_pos (by omega)), e_X12_isAlive H1.1 (by omega), zbind_s]
    simp only [zb_eq0]
    cases hal : al S a
    · simp only [if_true, Bool.false_eq_true, if_false]
      exact fin H1 w1' d1
    · simp only [if_true, Bool.true_eq_false, if_false]
      obtain ⟨h2, e2, H2, w2⟩ := e_X12_dies H1.1 ha
      rw [e2, zbind_s]
      exact fin (H1.of H2 w2) (w1'.tr (w2.mono (fun a k z => Or.inl z))) (n51 (w := w2) d1)
  · simp only [if_neg c]
    exact fin H1 w1' d1
theorem m49 (H : ML R S h) {a g : Nat} (ha : a < rn R) (hg : g < 2147483648) (e : h.2 139 51 = lN g) : ∃ h', g_X12_livesDay_49 139 (nI a) h = some (nI (ipd R (id3 R (id2 R S (dnx g)) a (dnx (dnx g))) (rb R)).2, h') ∧ ML R (ipd R (id3 R (id2 R S (dnx g)) a (dnx (dnx g))) (rb R)).1 h' ∧ zsm (fun a k => AM a k ∨ A51 a k) h h' ∧ h'.2 139 51 = lN (dnx (dnx g)) := by
  have hn := H.1.n7
  obtain ⟨h1, e1, d1, w1⟩ := e_draws (b := 2) hg (by decide) (by decide) e
  have H1 := H.z51 w1
  have w1' : zsm (fun a k => AM a k ∨ A51 a k) h h1 := w1.mono (fun a k z => Or.inr z)
  have e1 : g_X12_draws h 139 2 = some (nI (dvl (dnx g) 2), h1) := e1
  have l2 : dvl (dnx g) 2 < 2 := Nat.mod_lt _ (by decide)
  unfold g_X12_livesDay_49 id2
  rw [e1, zbind_s]
  simp only [zeq_0 (show dvl (dnx g) 2 < 2147483648 by omega)]
  by_cases c : dvl (dnx g) 2 = 0
  · simp only [if_pos c]
    obtain ⟨h2, e2, H2, w2⟩ := e_X12_taxesIfCan H1
    rw [e2, zbind_s]
    obtain ⟨h3, e3, H3, w3, d3⟩ := m61 H2 ha (dnx_lt g) (n51 (w := w2) d1)
    exact ⟨h3, e3, H3, (w1'.tr (w2.mono (fun a k z => Or.inl z))).tr w3, d3⟩
  · simp only [if_neg c]
    obtain ⟨h3, e3, H3, w3, d3⟩ := m61 H1 ha (dnx_lt g) d1
    exact ⟨h3, e3, H3, w1'.tr w3, d3⟩
theorem e_livesDay (H : ML R S h) {g : Nat} (hg : g < 2147483648) (e : rn R = 0 ∨ h.2 139 51 = lN g) : ∃ h', g_X12_livesDay h 139 = some (nI (idr R (S, g)).2, h') ∧ ML R (idr R (S, g)).1.1 h' ∧ zsm (fun a k => AM a k ∨ A51 a k) h h' ∧ (rn R = 0 ∨ h'.2 139 51 = lN (idr R (S, g)).1.2) ∧ (idr R (S, g)).1.2 < 2147483648 := by
  have hn := H.1.n7
  unfold g_X12_livesDay idr
  simp (disch := omega) only [H.1.n, zr_0_0, zr_0_1, zr_0_2, zr_0_3, zr_0_4, zr_0_5, zr_0_6, zr_0_7, zr_0_8, zr_1_0, zr_3_0, zr_3_1, zr_3_2, zr_3_3, zr_3_4, zr_3_5, zr_3_6, zr_10_0, zr_10_1, zr_13_0, zr_13_1, zr_13_4, zr_14_0, zr_14_1, zr_14_2, zr_14_3, zr_14_4, zr_14_5, zr_14_6, zr_21_0, zr_21_1, zr_24_0, zr_24_1, zr_24_2, zr_26_0, zr_26_1, zr_26_4, zr_27_0, zr_37_0, zr_37_1, zr_38_0, zr_44_0, zr_44_1, zr_44_2, zr_44_3, zr_45_0, zr_45_1, zr_52_0, zr_52_1, zr_59_0, zr_59_1, zr_66_0, zr_66_1, zr_73_0, zr_74_0, zr_74_1, zr_74_2, zr_74_3, zr_74_4, zr_74_5, zr_74_6, zr_74_7, zr_74_8, zr_74_9, zr_74_10, zr_74_11, zr_74_12, zr_74_13, zr_74_14, zr_74_15, zr_139_2, zr_139_10, zr_139_11, zr_139_12, zr_139_13, zr_139_14, zr_139_15, zr_139_16, zr_139_17, zr_139_18, zr_139_19, zr_139_20, zr_139_23, zr_139_24, zr_139_25, zr_139_26, zr_139_27, zr_139_28, zr_139_29, zr_139_30, zr_139_31, zr_139_32, zr_139_33, zr_139_34, zr_139_37, zr_139_38, zr_139_39, zr_139_40, zr_139_41, zr_139_42, zr_139_43, zr_139_44, zr_139_45, zr_139_46, zr_139_47, zr_139_48, zr_139_50, zin_t, zx_nI, nI_add, nI_mul, znI_le, znI_lt, znI_eq, znI_neg, zgu_t, zgu_f, zbind_s, zlet_e, zb_eq0, zb_eq1, zb_t, zb_f, zleL_0, zleR_0, zltL_0, zltR_0, zeq_0, zxl_0, zil_0, zmL_1, zmR_1, zaL_1, zaR_1, zleL_1, zleR_1, zltL_1, zltR_1, zeq_1, zxl_1, zil_1, zmL_2, zmR_2, zaL_2, zaR_2, zleL_2, zleR_2, zltL_2, zltR_2, zeq_2, zxl_2, zil_2, zmL_3, zmR_3, zaL_3, zaR_3, zleL_3, zleR_3, zltL_3, zltR_3, zeq_3, zxl_3, zil_3, zmL_4, zmR_4, zaL_4, zaR_4, zleL_4, zleR_4, zltL_4, zltR_4, zeq_4, zxl_4, zil_4, zmL_5, zmR_5, zaL_5, zaR_5, zleL_5, zleR_5, zltL_5, zltR_5, zeq_5, zxl_5, zil_5, zmL_6, zmR_6, zaL_6, zaR_6, zleL_6, zleR_6, zltL_6, zltR_6, zeq_6, zxl_6, zil_6, zmL_7, zmR_7, zaL_7, zaR_7, zleL_7, zleR_7, zltL_7, zltR_7, zeq_7, zxl_7, zil_7, zmL_8, zmR_8, zaL_8, zaR_8, zleL_8, zleR_8, zltL_8, zltR_8, zeq_8, zxl_8, zil_8, zmL_9, zmR_9, zaL_9, zaR_9, zleL_9, zleR_9, zltL_9, zltR_9, zeq_9, zxl_9, zil_9, zmL_10, zmR_10, zaL_10, zaR_10, zleL_10, zleR_10, zltL_10, zltR_10, zeq_10, zxl_10, zil_10, zmL_14, zmR_14, zaL_14, zaR_14, zleL_14, zleR_14, zltL_14, zltR_14, zeq_14, zxl_14, zil_14, zmL_15, zmR_15, zaL_15, zaR_15, zleL_15, zleR_15, zltL_15, zltR_15, zeq_15, zxl_15, zil_15, zmL_16, zmR_16, zaL_16, zaR_16, zleL_16, zleR_16, zltL_16, zltR_16, zeq_16, zxl_16, zil_16, zmL_20, zmR_20, zaL_20, zaR_20, zleL_20, zleR_20, zltL_20, zltR_20, zeq_20, zxl_20, zil_20, zmL_22, zmR_22, zaL_22, zaR_22, zleL_22, zleR_22, zltL_22, zltR_22, zeq_22, zxl_22, zil_22, zmL_23, zmR_23, zaL_23, zaR_23, zleL_23, zleR_23, zltL_23, zltR_23, zeq_23, zxl_23, zil_23, zmL_24, zmR_24, zaL_24, zaR_24, zleL_24, zleR_24, zltL_24, zltR_24, zeq_24, zxl_24, zil_24, zmL_25, zmR_25, zaL_25, zaR_25, zleL_25, zleR_25, zltL_25, zltR_25, zeq_25, zxl_25, zil_25, zmL_26, zmR_26, zaL_26, zaR_26, zleL_26, zleR_26, zltL_26, zltR_26, zeq_26, zxl_26, zil_26, zmL_32, zmR_32, zaL_32, zaR_32, zleL_32, zleR_32, zltL_32, zltR_32, zeq_32, zxl_32, zil_32, zmL_40, zmR_40, zaL_40, zaR_40, zleL_40, zleR_40, zltL_40, zltR_40, zeq_40, zxl_40, zil_40, zmL_49, zmR_49, zaL_49, zaR_49, zleL_49, zleR_49, zltL_49, zltR_49, zeq_49, zxl_49, zil_49, zmL_58, zmR_58, zaL_58, zaR_58, zleL_58, zleR_58, zltL_58, zltR_58, zeq_58, zxl_58, zil_58, zmL_99, zmR_99, zaL_99, zaR_99, zleL_99, zleR_99, zltL_99, zltR_99, zeq_99, zxl_99, zil_99, zmL_100, zmR_100, zaL_100, zaR_100, zleL_100, zleR_100, zltL_100, zltR_100, zeq_100, zxl_100, zil_100, zmL_107, zmR_107, zaL_107, zaR_107, zleL_107, zleR_107, zltL_107, zltR_107, zeq_107, zxl_107, zil_107, zmL_126, zmR_126, zaL_126, zaR_126, zleL_126, zleR_126, zltL_126, zltR_126, zeq_126, zxl_126, zil_126, zmL_1000, zmR_1000, zaL_1000, zaR_1000, zleL_1000, zleR_1000, zltL_1000, zltR_1000, zeq_1000, zxl_1000, zil_1000, zmL_1605, zmR_1605, zaL_1605, zaR_1605, zleL_1605, zleR_1605, zltL_1605, zltR_1605, zeq_1605, zxl_1605, zil_1605]
  by_cases c : rn R = 0
  · simp only [if_pos c]
    rw [if_pos (by omega)]
    unfold g_X12_livesDay_49
    have hig : ig R S = none := by unfold ig; rw [c]; rfl
    have hct : ict R S = false := by unfold ict; rw [hig]
    have eit : itx R S = S := by unfold itx; rw [hct]; rfl
    have dr : ∀ (hh : zH) (b : Nat), 0 < b → b < 100 → ∃ v h', g_X12_draws hh 139 (nI b) = some (v, h') ∧ zsm A51 hh h' := by
      intro hh b b0 b1
      unfold g_X12_draws
      rw [zlet_e, e_nz b0 (by omega), zgu_t]
      exact ⟨_, _, rfl, zsm.pl ⟨rfl, rfl⟩⟩
    obtain ⟨v1, h1, e1, w1⟩ := dr h 2 (by decide) (by decide)
    have e1 : g_X12_draws h 139 2 = some (v1, h1) := e1
    have H1 := H.z51 w1
    have l61 : ∀ {hh : zH}, ML R S hh → zsm (fun a k => AM a k ∨ A51 a k) h hh → ∃ h', g_X12_livesDay_61 139 (-1) hh = some (nI (ipd R S (rb R)).2, h') ∧ ML R (ipd R S (rb R)).1 h' ∧ zsm (fun a k => AM a k ∨ A51 a k) h h' := by
      intro hh HH wh
      obtain ⟨v2, h2, e2, w2⟩ := dr hh 20 (by decide) (by decide)
      have e2 : g_X12_draws hh 139 20 = some (v2, h2) := e2
      obtain ⟨h3, e3, H3, w3⟩ := m88 (HH.z51 w2)
      refine ⟨h3, ?_, H3, (wh.tr (w2.mono (fun a k z => Or.inr z))).tr (w3.mono (fun a k z => Or.inl z))⟩
      unfold g_X12_livesDay_61
      rw [e2, zbind_s]
      simp only [e3]
      have n0 : (-1 : Int32) < 0 := by decide
      simp only [if_pos n0, ite_self]
    rw [e1, zbind_s]
    by_cases c2 : v1 = 0
    · simp only [if_pos c2]
      obtain ⟨h2, e2, H2, w2⟩ := e_X12_taxesIfCan H1
      rw [eit] at H2
      rw [e2, zbind_s]
      obtain ⟨h3, e3, H3, w3⟩ := l61 H2 ((w1.mono (fun a k z => Or.inr z)).tr (w2.mono (fun a k z => Or.inl z)))
      exact ⟨h3, e3, H3, w3, Or.inl c, hg⟩
    · simp only [if_neg c2]
      obtain ⟨h3, e3, H3, w3⟩ := l61 H1 (w1.mono (fun a k z => Or.inr z))
      exact ⟨h3, e3, H3, w3, Or.inl c, hg⟩
  · have e := e.resolve_left c
    simp only [if_neg c]
    rw [if_neg (by omega)]
    obtain ⟨h1, e1, d1, w1⟩ := e_draws (b := rn R) hg (by omega) (by omega) e
    have H1 := H.z51 w1
    obtain ⟨h2, e2, d2, w2⟩ := e_draws (b := rn R) (dnx_lt g) (by omega) (by omega) d1
    have H2 := H1.z51 w2
    have w12 : zsm (fun a k => AM a k ∨ A51 a k) h h2 := (w1.tr w2).mono (fun a k z => Or.inr z)
    have la : dvl (dnx g) (rn R) < rn R := Nat.mod_lt _ (by omega)
    have lb : dvl (dnx (dnx g)) (rn R) < rn R := Nat.mod_lt _ (by omega)
    rw [e1, zbind_s]
    simp only [H1.1.n]
    rw [e2, zbind_s]
    simp only
    rw [e_X12_areAlive H2.1 la lb, zbind_s]
    try simp only [zb_eq0]
    have fin : ∀ {S2 : zSt} {h3 : zH}, ML R S2 h3 → zsm (fun a k => AM a k ∨ A51 a k) h h3 → h3.2 139 51 = lN (dnx (dnx g)) → ∃ h', g_X12_livesDay_49 139 (nI (dvl (dnx g) (rn R))) h3 = some (nI (ipd R (id3 R (id2 R S2 (dnx (dnx (dnx g)))) (dvl (dnx g) (rn R)) (dnx (dnx (dnx (dnx g))))) (rb R)).2, h') ∧ ML R (ipd R (id3 R (id2 R S2 (dnx (dnx (dnx g)))) (dvl (dnx g) (rn R)) (dnx (dnx (dnx (dnx g))))) (rb R)).1 h' ∧ zsm (fun a k => AM a k ∨ A51 a k) h h' ∧ (rn R = 0 ∨ h'.2 139 51 = lN (dnx (dnx (dnx (dnx g))))) ∧ dnx (dnx (dnx (dnx g))) < 2147483648 := by
      intro S2 h3 H3 w3 d3
      obtain ⟨h4, e4, H4, w4, d4⟩ := m49 H3 la (dnx_lt _) d3
      exact ⟨h4, e4, H4, w3.tr w4, Or.inr d4, dnx_lt _⟩
    unfold id1
    cases hc : i2a S (dvl (dnx g) (rn R)) (dvl (dnx (dnx g)) (rn R))
    · simp only [if_true, Bool.false_eq_true, if_false]
      exact fin H2 w12 d2
    · simp only [if_true, Bool.true_eq_false, if_false]
      obtain ⟨h3, e3, H3, w3⟩ := e_X12_gives H2 la lb
      rw [e3, zbind_s]
      exact fin H3 (w12.tr (w3.mono (fun a k z => Or.inl z))) (n51 (w := w3) d2)
end P7
