/-! mark -/
section P6
variable {R : zRp} {S S' S0 : zSt} {pc pc' : Nat} {pS pS' : Nat → zSt} {Z : zZ} {h h' h1 h2 : zH} {t : Nat} {D : zHd} {Y : zY} {A : Nat → Nat → Prop}
def zlayZ (Z : zZ) (S : zSt) (m : Nat) : zZ := (zg Z, zy Z, zhd Z, fun i => if i = m then (true, S, zy Z, zhd Z) else zmk Z i, ztp Z, znm Z)
theorem lay_class (I : RelI R S pc pS Z) (C : RelC R S pc pS Z h) {m : Nat} (hm : m < 4) : ∃ h1, g_X11_mark h 0 (nI m) 0 = some (true, h1) ∧ RelC R S pc pS (zlayZ Z S m) h1 ∧ zsm Alo h h1 := by
  have hn := I.1.1
  obtain ⟨hmo, h44⟩ := momk m hm
  obtain ⟨h1, e1, k1, k2, k3, w1⟩ := e_X2_become (h := h) (t := 45 + 7 * m) (u := 37) hmo mo37 (by omega)
  have w2 : zsm (fun a k => a = 45 + 7 * m ∧ k = 4) h1 (zpi h1 (45 + 7 * m) 4 1) := zsm.pi ⟨rfl, rfl⟩
  have v4 : (zpi h1 (45 + 7 * m) 4 1).1 (45 + 7 * m) 4 = 1 := by rw [zpi_r, if_pos ⟨rfl, rfl⟩]
  generalize hh : zpi h1 (45 + 7 * m) 4 1 = h2 at *
  have w : zsm (fun a _ => 45 + 7 * m ≤ a ∧ a ≤ 45 + 7 * m + 6) h h2 := (w1.mono (fun a k z => by unfold AB at z; omega)).tr (w2.mono (fun a k z => by omega))
  refine ⟨h2, ?_, ?_, w.mono (fun a k z => by unfold Alo; omega)⟩
  · unfold g_X11_mark
    rw [if_neg (nI_pos (by omega)), if_pos (by rw [zltR_4 (by omega)]; exact hm), if_pos rfl]
    simp (disch := omega) only [zr_0_0, zr_0_1, zr_0_2, zr_0_3, zr_0_4, zr_0_5, zr_0_6, zr_0_7, zr_0_8, zr_1_0, zr_3_0, zr_3_1, zr_3_2, zr_3_3, zr_3_4, zr_3_5, zr_3_6, zr_10_0, zr_10_1, zr_13_0, zr_13_1, zr_13_4, zr_14_0, zr_14_1, zr_14_2, zr_14_3, zr_14_4, zr_14_5, zr_14_6, zr_21_0, zr_21_1, zr_24_0, zr_24_1, zr_24_2, zr_26_0, zr_26_1, zr_26_4, zr_27_0, zr_37_0, zr_37_1, zr_38_0, zr_44_0, zr_44_1, zr_44_2, zr_44_3, zr_45_0, zr_45_1, zr_52_0, zr_52_1, zr_59_0, zr_59_1, zr_66_0, zr_66_1, zr_73_0, zr_74_0, zr_74_1, zr_74_2, zr_74_3, zr_74_4, zr_74_5, zr_74_6, zr_74_7, zr_74_8, zr_74_9, zr_74_10, zr_74_11, zr_74_12, zr_74_13, zr_74_14, zr_74_15, zr_139_2, zr_139_10, zr_139_11, zr_139_12, zr_139_13, zr_139_14, zr_139_15, zr_139_16, zr_139_17, zr_139_18, zr_139_19, zr_139_20, zr_139_23, zr_139_24, zr_139_25, zr_139_26, zr_139_27, zr_139_28, zr_139_29, zr_139_30, zr_139_31, zr_139_32, zr_139_33, zr_139_34, zr_139_37, zr_139_38, zr_139_39, zr_139_40, zr_139_41, zr_139_42, zr_139_43, zr_139_44, zr_139_45, zr_139_46, zr_139_47, zr_139_48, zr_139_50, zin_t, zx_nI, nI_add, nI_mul, znI_le, znI_lt, znI_eq, znI_neg, zgu_t, zgu_f, zbind_s, zlet_e, zb_eq0, zb_eq1, zb_t, zb_f, zleL_0, zleR_0, zltL_0, zltR_0, zeq_0, zxl_0, zil_0, zmL_1, zmR_1, zaL_1, zaR_1, zleL_1, zleR_1, zltL_1, zltR_1, zeq_1, zxl_1, zil_1, zmL_2, zmR_2, zaL_2, zaR_2, zleL_2, zleR_2, zltL_2, zltR_2, zeq_2, zxl_2, zil_2, zmL_3, zmR_3, zaL_3, zaR_3, zleL_3, zleR_3, zltL_3, zltR_3, zeq_3, zxl_3, zil_3, zmL_4, zmR_4, zaL_4, zaR_4, zleL_4, zleR_4, zltL_4, zltR_4, zeq_4, zxl_4, zil_4, zmL_5, zmR_5, zaL_5, zaR_5, zleL_5, zleR_5, zltL_5, zltR_5, zeq_5, zxl_5, zil_5, zmL_6, zmR_6, zaL_6, zaR_6, zleL_6, zleR_6, zltL_6, zltR_6, zeq_6, zxl_6, zil_6, zmL_7, zmR_7, zaL_7, zaR_7, zleL_7, zleR_7, zltL_7, zltR_7, zeq_7, zxl_7, zil_7, zmL_8, zmR_8, zaL_8, zaR_8, zleL_8, zleR_8, zltL_8, zltR_8, zeq_8, zxl_8, zil_8, zmL_9, zmR_9, zaL_9, zaR_9, zleL_9, zleR_9, zltL_9, zltR_9, zeq_9, zxl_9, zil_9, zmL_10, zmR_10, zaL_10, zaR_10, zleL_10, zleR_10, zltL_10, zltR_10, zeq_10, zxl_10, zil_10, zmL_14, zmR_14, zaL_14, zaR_14, zleL_14, zleR_14, zltL_14, zltR_14, zeq_14, zxl_14, zil_14, zmL_15, zmR_15, zaL_15, zaR_15, zleL_15, zleR_15, zltL_15, zltR_15, zeq_15, zxl_15, zil_15, zmL_16, zmR_16, zaL_16, zaR_16, zleL_16, zleR_16, zltL_16, zltR_16, zeq_16, zxl_16, zil_16, zmL_20, zmR_20, zaL_20, zaR_20, zleL_20, zleR_20, zltL_20, zltR_20, zeq_20, zxl_20, zil_20, zmL_22, zmR_22, zaL_22, zaR_22, zleL_22, zleR_22, zltL_22, zltR_22, zeq_22, zxl_22, zil_22, zmL_23, zmR_23, zaL_23, zaR_23, zleL_23, zleR_23, zltL_23, zltR_23, zeq_23, zxl_23, zil_23, zmL_24, zmR_24, zaL_24, zaR_24, zleL_24, zleR_24, zltL_24, zltR_24, zeq_24, zxl_24, zil_24, zmL_25, zmR_25, zaL_25, zaR_25, zleL_25, zleR_25, zltL_25, zltR_25, zeq_25, zxl_25, zil_25, zmL_26, zmR_26, zaL_26, zaR_26, zleL_26, zleR_26, zltL_26, zltR_26, zeq_26, zxl_26, zil_26, zmL_32, zmR_32, zaL_32, zaR_32, zleL_32, zleR_32, zltL_32, zltR_32, zeq_32, zxl_32, zil_32, zmL_40, zmR_40, zaL_40, zaR_40, zleL_40, zleR_40, zltL_40, zltR_40, zeq_40, zxl_40, zil_40, zmL_49, zmR_49, zaL_49, zaR_49, zleL_49, zleR_49, zltL_49, zltR_49, zeq_49, zxl_49, zil_49, zmL_58, zmR_58, zaL_58, zaR_58, zleL_58, zleR_58, zltL_58, zltR_58, zeq_58, zxl_58, zil_58, zmL_99, zmR_99, zaL_99, zaR_99, zleL_99, zleR_99, zltL_99, zltR_99, zeq_99, zxl_99, zil_99, zmL_100, zmR_100, zaL_100, zaR_100, zleL_100, zleR_100, zltL_100, zltR_100, zeq_100, zxl_100, zil_100, zmL_107, zmR_107, zaL_107, zaR_107, zleL_107, zleR_107, zltL_107, zltR_107, zeq_107, zxl_107, zil_107, zmL_126, zmR_126, zaL_126, zaR_126, zleL_126, zleR_126, zltL_126, zltR_126, zeq_126, zxl_126, zil_126, zmL_1000, zmR_1000, zaL_1000, zaR_1000, zleL_1000, zleR_1000, zltL_1000, zltR_1000, zeq_1000, zxl_1000, zil_1000, zmL_1605, zmR_1605, zaL_1605, zaR_1605, zleL_1605, zleR_1605, zltL_1605, zltR_1605, zeq_1605, zxl_1605, zil_1605]
    rw [h44, e1, zbind_s, hh]
  · obtain ⟨s1, s2, s3, s4, s5⟩ := C.1.st w (fun a k z => by unfold Ast; omega)
    obtain ⟨s6, s7⟩ := C.1.tp w (fun a k z => by unfold Ast; omega)
    refine ⟨⟨s1, s2, s3, s4, s5, C.1.2.2.2.2.2.1.same w (fun a k ha hb => by omega), C.1.2.2.2.2.2.2.1.same w (fun k => by omega), fun i hi => ?_, s6, s7⟩, C.2.1.same w (fun a b ha hb => by omega), C.2.2.same w (fun a k ha hb => by omega)⟩
    show h2.1 (45 + 7 * i) 4 = zb (if i = m then (true, S, zy Z, zhd Z) else zmk Z i).1 ∧ ((if i = m then (true, S, zy Z, zhd Z) else zmk Z i).1 = true → _)
    by_cases c : i = m
    · subst c
      have hK := (k1 hn C.2.1).same w2 (fun a b ha hb => by omega)
      have hY := (k2 I.2.2.2.2.1.1 C.1.2.2.2.2.2.1).same w2 (fun a k ha hb => by omega)
      have hD : HC (zhd Z) h2 (45 + 7 * i) := by
        obtain ⟨q1, mm, q2, q3, q4⟩ := k3 C.1.2.2.2.2.2.2.1
        exact ⟨by rw [(w2 _ _ (by omega)).1]; exact q1, mm, q2, by rw [(w2 _ _ (by omega)).1]; exact q3, q4⟩
      show h2.1 (45 + 7 * i) 4 = zb (if i = i then (true, S, zy Z, zhd Z) else zmk Z i).1 ∧ (_ → SC (rn R) (if i = i then (true, S, zy Z, zhd Z) else zmk Z i).2.1 h2 (48 + 7 * i) ∧ YC (if i = i then (true, S, zy Z, zhd Z) else zmk Z i).2.2.1 h2 (46 + 7 * i) ∧ HC (if i = i then (true, S, zy Z, zhd Z) else zmk Z i).2.2.2 h2 (45 + 7 * i))
      simp only [if_true]
      refine ⟨v4, fun _ => ⟨?_, ?_, hD⟩⟩
      · rw [show 48 + 7 * i = 45 + 7 * i + 3 by omega]; exact hK
      · rw [show 46 + 7 * i = 45 + 7 * i + 1 by omega]; exact hY
    · obtain ⟨a1, a2⟩ := C.1.2.2.2.2.2.2.2.1 i hi
      show h2.1 (45 + 7 * i) 4 = zb (if i = m then (true, S, zy Z, zhd Z) else zmk Z i).1 ∧ (_ → SC (rn R) (if i = m then (true, S, zy Z, zhd Z) else zmk Z i).2.1 h2 (48 + 7 * i) ∧ YC (if i = m then (true, S, zy Z, zhd Z) else zmk Z i).2.2.1 h2 (46 + 7 * i) ∧ HC (if i = m then (true, S, zy Z, zhd Z) else zmk Z i).2.2.2 h2 (45 + 7 * i))
      simp only [if_neg c]
      exact ⟨by rw [(w _ _ (by omega)).1]; exact a1, fun z => ⟨(a2 z).1.same w (fun a b ha hb => by omega), (a2 z).2.1.same w (fun a k ha hb => by omega), (a2 z).2.2.same w (fun k => by omega)⟩⟩
theorem lay_ref (I : RelI R S pc pS Z) (M : RelM R S pc pS Z h) {m : Nat} (hm : m < 4) : ∃ h1, g_X12_mark_29 139 (nI m) 0 h = some (true, h1) ∧ RelM R S pc pS (zlayZ Z S m) h1 ∧ zsm Ahi h h1 := by
  have hn := I.1.1
  have w0 : zsm (fun a k => a = 175 ∧ k = m) h (zpi h 175 m 1) := zsm.pi ⟨rfl, rfl⟩
  generalize e0 : zpi h 175 m 1 = h0 at w0
  obtain ⟨h1, e1, k1, w1⟩ := e_laysLines (h := h0) (a := 0) (b := 1 + m) (by omega) (by omega) (by omega)
  obtain ⟨h2, e2, k2, w2⟩ := e_laysHeard (h := h1) (a := 0) (b := 1 + m) (by omega) (by omega) (by omega)
  obtain ⟨h3, e3, k3, w3⟩ := e_X12_copies (h := h2) (a := 171) (b := 173) (x := 0) (y := 107 * m) (n0 := 107) (n2 := 428) (by decide) (by omega) (by omega) (by omega) (by omega)
  have w : zsm (fun a k => (a = 175 ∧ k = m) ∨ AL (1 + m) a k ∨ AN (1 + m) a k ∨ AR 173 (107 * m) 107 a k) h h3 := (((w0.mono (fun a k z => Or.inl z)).tr (w1.mono (fun a k z => Or.inr (Or.inl z)))).tr (w2.mono (fun a k z => Or.inr (Or.inr (Or.inl z))))).tr (w3.mono (fun a k z => Or.inr (Or.inr (Or.inr z))))
  refine ⟨h3, ?_, ?_, w.mono (fun a k z => by unfold AL AN AR at z; unfold Ahi; omega)⟩
  · unfold g_X12_mark_29 g_X12_mark_47 g_X12_mark_59
    have ev : vp_nar .boolean 1 = 1 := vnar true
    have em : (107 : Int32) * nI m = nI (107 * m) := zmL_107 _
    rw [ev, em, zin_t (by omega) (by omega), zgu_t, zlet_e, zx_nI (by omega)]
    simp only [zr_0_0, zr_0_1, zr_0_2, zr_0_3, zr_0_4, zr_0_5, zr_0_6, zr_0_7, zr_0_8, zr_1_0, zr_3_0, zr_3_1, zr_3_2, zr_3_3, zr_3_4, zr_3_5, zr_3_6, zr_10_0, zr_10_1, zr_13_0, zr_13_1, zr_13_4, zr_14_0, zr_14_1, zr_14_2, zr_14_3, zr_14_4, zr_14_5, zr_14_6, zr_21_0, zr_21_1, zr_24_0, zr_24_1, zr_24_2, zr_26_0, zr_26_1, zr_26_4, zr_27_0, zr_37_0, zr_37_1, zr_38_0, zr_44_0, zr_44_1, zr_44_2, zr_44_3, zr_45_0, zr_45_1, zr_52_0, zr_52_1, zr_59_0, zr_59_1, zr_66_0, zr_66_1, zr_73_0, zr_74_0, zr_74_1, zr_74_2, zr_74_3, zr_74_4, zr_74_5, zr_74_6, zr_74_7, zr_74_8, zr_74_9, zr_74_10, zr_74_11, zr_74_12, zr_74_13, zr_74_14, zr_74_15, zr_139_2, zr_139_10, zr_139_11, zr_139_12, zr_139_13, zr_139_14, zr_139_15, zr_139_16, zr_139_17, zr_139_18, zr_139_19, zr_139_20, zr_139_23, zr_139_24, zr_139_25, zr_139_26, zr_139_27, zr_139_28, zr_139_29, zr_139_30, zr_139_31, zr_139_32, zr_139_33, zr_139_34, zr_139_37, zr_139_38, zr_139_39, zr_139_40, zr_139_41, zr_139_42, zr_139_43, zr_139_44, zr_139_45, zr_139_46, zr_139_47, zr_139_48, zr_139_50, if_true, zaL_1]
    have e1 : g_X12_laysLines h0 139 0 (nI (1 + m)) = some h1 := e1
    have e2 : g_X12_laysHeard h1 139 0 (nI (1 + m)) = some h2 := e2
    have e3 : g_X12_copies h2 171 107 0 173 428 (nI (107 * m)) = some h3 := e3
    rw [e0, e1, zbind_s, e2, zbind_s, e3]; rfl
  · obtain ⟨v1, v2, v3, v4⟩ := M.1.st w (fun a j z => by unfold AL AN AR at z; unfold Asm; omega)
    obtain ⟨v6, v7⟩ := M.1.tp w (fun a j z => by unfold AL AN AR at z; unfold Asm; omega)
    have S2 : SM (rn R) S h2 171 0 := ((M.2.1.same w0 (fun j => by omega)).same w1 (fun j => by unfold AL; omega)).same w2 (fun j => by unfold AN; omega)
    have Yk : ∀ {Y : zY} {i : Nat}, Y.1 ≤ 40 → YM Y h i → i ≠ 1 + m → YM Y h3 i := fun hY K hi => ((((K.same w0 (fun a j ha hb => by omega)).sameL hY w1 hi).same w2 (fun a j ha hb => by unfold AN; omega))).same w3 (fun a j ha hb => by unfold AR; omega)
    have Hk : ∀ {D : zHd} {i : Nat}, HI D → HM D h i → i ≠ 1 + m → HM D h3 i := fun hD K hi => ((((K.same w0 (fun a j ha hb => by omega)).same w1 (fun a j ha hb => by unfold AL; omega)).sameN hD w2 hi)).same w3 (fun a j ha hb => by unfold AR; omega)
    refine ⟨⟨v1, v2, v3, v4, Yk I.2.2.2.2.1.1 M.1.2.2.2.2.1 (by omega), Hk I.2.2.2.2.2.1 M.1.2.2.2.2.2.1 (by omega), fun i hi => ?_, v6, v7⟩, S2.same w3 (fun j => by unfold AR; omega), M.2.2.1.same w (by unfold AL AN AR; omega) (fun j => by unfold AL AN AR; omega), M.2.2.2.same w (fun j => by unfold AL AN AR; omega)⟩
    show h3.1 175 i = zb (if i = m then (true, S, zy Z, zhd Z) else zmk Z i).1 ∧ ((if i = m then (true, S, zy Z, zhd Z) else zmk Z i).1 = true → SM (rn R) (if i = m then (true, S, zy Z, zhd Z) else zmk Z i).2.1 h3 173 (107 * i) ∧ YM (if i = m then (true, S, zy Z, zhd Z) else zmk Z i).2.2.1 h3 (1 + i) ∧ HM (if i = m then (true, S, zy Z, zhd Z) else zmk Z i).2.2.2 h3 (1 + i))
    by_cases c : i = m
    · subst c
      simp only [if_true]
      refine ⟨?_, fun _ => ⟨S2.copy hn k3, ?_, ?_⟩⟩
      · rw [(w3 _ _ (by unfold AR; omega)).1, (w2 _ _ (by unfold AN; omega)).1, (w1 _ _ (by unfold AL; omega)).1, ← e0, zpi_r, if_pos ⟨rfl, rfl⟩]; rfl
      · exact ((k1 I.2.2.2.2.1.1 (M.1.2.2.2.2.1.same w0 (fun a j ha hb => by omega))).same w2 (fun a j ha hb => by unfold AN; omega)).same w3 (fun a j ha hb => by unfold AR; omega)
      · exact (k2 I.2.2.2.2.2.1 ((M.1.2.2.2.2.2.1.same w0 (fun a j ha hb => by omega)).same w1 (fun a j ha hb => by unfold AL; omega))).same w3 (fun a j ha hb => by unfold AR; omega)
    · simp only [if_neg c]
      obtain ⟨a1, a2⟩ := M.1.2.2.2.2.2.2.1 i hi
      refine ⟨by rw [(w _ _ (by unfold AL AN AR; omega)).1]; exact a1, fun z => ⟨?_, ?_, ?_⟩⟩
      · exact (a2 z).1.sameR hn w (fun j ha hb => by unfold AL AN AR; omega)
      · exact Yk (I.2.2.2.2.2.2.1 i hi z).2.1.1 (a2 z).2.1 (by omega)
      · exact Hk (I.2.2.2.2.2.2.1 i hi z).2.2 (a2 z).2.2 (by omega)
theorem lay_I (I : RelI R S pc pS Z) {m : Nat} : RelI R S pc pS (zlayZ Z S m) := by
  refine ⟨I.1, I.2.1, I.2.2.1, I.2.2.2.1, I.2.2.2.2.1, I.2.2.2.2.2.1, fun i hi => ?_, I.2.2.2.2.2.2.2⟩
  show (if i = m then (true, S, zy Z, zhd Z) else zmk Z i).1 = true → SI (rn R) (if i = m then (true, S, zy Z, zhd Z) else zmk Z i).2.1 ∧ YI (rn R) (if i = m then (true, S, zy Z, zhd Z) else zmk Z i).2.2.1 ∧ HI (if i = m then (true, S, zy Z, zhd Z) else zmk Z i).2.2.2
  by_cases c : i = m
  · simp only [if_pos c]
    exact fun _ => ⟨I.2.1, I.2.2.2.2.1, I.2.2.2.2.2.1⟩
  · simp only [if_neg c]
    exact I.2.2.2.2.2.2.1 i hi
def zbk (Z : zZ) (m : Nat) : zZ := (zg Z, (zmk Z m).2.2.1, (zmk Z m).2.2.2, zmk Z, ztp Z, znm Z)
theorem back_class (I : RelI R S pc pS Z) (C : RelC R S pc pS Z h) {m : Nat} (hm : m < 4) (hl : (zmk Z m).1 = true) : ∃ h1, g_X11_mark h 0 (nI m) 1 = some (true, h1) ∧ RelC R (zmk Z m).2.1 0 pS (zbk Z m) h1 ∧ zsm Alo h h1 := by
  have hn := I.1.1
  obtain ⟨hmo, h44⟩ := momk m hm
  obtain ⟨i1, i2, i3⟩ := I.2.2.2.2.2.2.1 m hm hl
  obtain ⟨l1, l2⟩ := C.1.2.2.2.2.2.2.2.1 m hm
  obtain ⟨l3, l4, l5⟩ := l2 hl
  obtain ⟨h1, e1, k1, k2, k3, w1⟩ := e_X2_become (h := h) (t := 37) (u := 45 + 7 * m) mo37 hmo (by omega)
  have w2 : zsm (fun a k => a = 73 ∧ k = 2) h1 (zpi h1 73 2 0) := zsm.pi ⟨rfl, rfl⟩
  have v2 : (zpi h1 73 2 0).1 73 2 = 0 := by rw [zpi_r, if_pos ⟨rfl, rfl⟩]
  generalize hh : zpi h1 73 2 0 = h2 at *
  have w : zsm (fun a k => (37 ≤ a ∧ a ≤ 43) ∨ (a = 73 ∧ k = 2)) h h2 := (w1.mono (fun a k z => by unfold AB at z; omega)).tr (w2.mono (fun a k z => by omega))
  refine ⟨h2, ?_, ?_, w.mono (fun a k z => by unfold Alo; omega)⟩
  · unfold g_X11_mark g_X3_forget
    rw [if_neg (nI_pos (by omega)), if_pos (by rw [zltR_4 (by omega)]; exact hm), if_neg (by decide)]
    simp (disch := omega) only [zr_0_0, zr_0_1, zr_0_2, zr_0_3, zr_0_4, zr_0_5, zr_0_6, zr_0_7, zr_0_8, zr_1_0, zr_3_0, zr_3_1, zr_3_2, zr_3_3, zr_3_4, zr_3_5, zr_3_6, zr_10_0, zr_10_1, zr_13_0, zr_13_1, zr_13_4, zr_14_0, zr_14_1, zr_14_2, zr_14_3, zr_14_4, zr_14_5, zr_14_6, zr_21_0, zr_21_1, zr_24_0, zr_24_1, zr_24_2, zr_26_0, zr_26_1, zr_26_4, zr_27_0, zr_37_0, zr_37_1, zr_38_0, zr_44_0, zr_44_1, zr_44_2, zr_44_3, zr_45_0, zr_45_1, zr_52_0, zr_52_1, zr_59_0, zr_59_1, zr_66_0, zr_66_1, zr_73_0, zr_74_0, zr_74_1, zr_74_2, zr_74_3, zr_74_4, zr_74_5, zr_74_6, zr_74_7, zr_74_8, zr_74_9, zr_74_10, zr_74_11, zr_74_12, zr_74_13, zr_74_14, zr_74_15, zr_139_2, zr_139_10, zr_139_11, zr_139_12, zr_139_13, zr_139_14, zr_139_15, zr_139_16, zr_139_17, zr_139_18, zr_139_19, zr_139_20, zr_139_23, zr_139_24, zr_139_25, zr_139_26, zr_139_27, zr_139_28, zr_139_29, zr_139_30, zr_139_31, zr_139_32, zr_139_33, zr_139_34, zr_139_37, zr_139_38, zr_139_39, zr_139_40, zr_139_41, zr_139_42, zr_139_43, zr_139_44, zr_139_45, zr_139_46, zr_139_47, zr_139_48, zr_139_50, zin_t, zx_nI, nI_add, nI_mul, znI_le, znI_lt, znI_eq, znI_neg, zgu_t, zgu_f, zbind_s, zlet_e, zb_eq0, zb_eq1, zb_t, zb_f, zleL_0, zleR_0, zltL_0, zltR_0, zeq_0, zxl_0, zil_0, zmL_1, zmR_1, zaL_1, zaR_1, zleL_1, zleR_1, zltL_1, zltR_1, zeq_1, zxl_1, zil_1, zmL_2, zmR_2, zaL_2, zaR_2, zleL_2, zleR_2, zltL_2, zltR_2, zeq_2, zxl_2, zil_2, zmL_3, zmR_3, zaL_3, zaR_3, zleL_3, zleR_3, zltL_3, zltR_3, zeq_3, zxl_3, zil_3, zmL_4, zmR_4, zaL_4, zaR_4, zleL_4, zleR_4, zltL_4, zltR_4, zeq_4, zxl_4, zil_4, zmL_5, zmR_5, zaL_5, zaR_5, zleL_5, zleR_5, zltL_5, zltR_5, zeq_5, zxl_5, zil_5, zmL_6, zmR_6, zaL_6, zaR_6, zleL_6, zleR_6, zltL_6, zltR_6, zeq_6, zxl_6, zil_6, zmL_7, zmR_7, zaL_7, zaR_7, zleL_7, zleR_7, zltL_7, zltR_7, zeq_7, zxl_7, zil_7, zmL_8, zmR_8, zaL_8, zaR_8, zleL_8, zleR_8, zltL_8, zltR_8, zeq_8, zxl_8, zil_8, zmL_9, zmR_9, zaL_9, zaR_9, zleL_9, zleR_9, zltL_9, zltR_9, zeq_9, zxl_9, zil_9, zmL_10, zmR_10, zaL_10, zaR_10, zleL_10, zleR_10, zltL_10, zltR_10, zeq_10, zxl_10, zil_10, zmL_14, zmR_14, zaL_14, zaR_14, zleL_14, zleR_14, zltL_14, zltR_14, zeq_14, zxl_14, zil_14, zmL_15, zmR_15, zaL_15, zaR_15, zleL_15, zleR_15, zltL_15, zltR_15, zeq_15, zxl_15, zil_15, zmL_16, zmR_16, zaL_16, zaR_16, zleL_16, zleR_16, zltL_16, zltR_16, zeq_16, zxl_16, zil_16, zmL_20, zmR_20, zaL_20, zaR_20, zleL_20, zleR_20, zltL_20, zltR_20, zeq_20, zxl_20, zil_20, zmL_22, zmR_22, zaL_22, zaR_22, zleL_22, zleR_22, zltL_22, zltR_22, zeq_22, zxl_22, zil_22, zmL_23, zmR_23, zaL_23, zaR_23, zleL_23, zleR_23, zltL_23, zltR_23, zeq_23, zxl_23, zil_23, zmL_24, zmR_24, zaL_24, zaR_24, zleL_24, zleR_24, zltL_24, zltR_24, zeq_24, zxl_24, zil_24, zmL_25, zmR_25, zaL_25, zaR_25, zleL_25, zleR_25, zltL_25, zltR_25, zeq_25, zxl_25, zil_25, zmL_26, zmR_26, zaL_26, zaR_26, zleL_26, zleR_26, zltL_26, zltR_26, zeq_26, zxl_26, zil_26, zmL_32, zmR_32, zaL_32, zaR_32, zleL_32, zleR_32, zltL_32, zltR_32, zeq_32, zxl_32, zil_32, zmL_40, zmR_40, zaL_40, zaR_40, zleL_40, zleR_40, zltL_40, zltR_40, zeq_40, zxl_40, zil_40, zmL_49, zmR_49, zaL_49, zaR_49, zleL_49, zleR_49, zltL_49, zltR_49, zeq_49, zxl_49, zil_49, zmL_58, zmR_58, zaL_58, zaR_58, zleL_58, zleR_58, zltL_58, zltR_58, zeq_58, zxl_58, zil_58, zmL_99, zmR_99, zaL_99, zaR_99, zleL_99, zleR_99, zltL_99, zltR_99, zeq_99, zxl_99, zil_99, zmL_100, zmR_100, zaL_100, zaR_100, zleL_100, zleR_100, zltL_100, zltR_100, zeq_100, zxl_100, zil_100, zmL_107, zmR_107, zaL_107, zaR_107, zleL_107, zleR_107, zltL_107, zltR_107, zeq_107, zxl_107, zil_107, zmL_126, zmR_126, zaL_126, zaR_126, zleL_126, zleR_126, zltL_126, zltR_126, zeq_126, zxl_126, zil_126, zmL_1000, zmR_1000, zaL_1000, zaR_1000, zleL_1000, zleR_1000, zltL_1000, zltR_1000, zeq_1000, zxl_1000, zil_1000, zmL_1605, zmR_1605, zaL_1605, zaR_1605, zleL_1605, zleR_1605, zltL_1605, zltR_1605, zeq_1605, zxl_1605, zil_1605]
    rw [h44, l1, hl, if_neg (by decide), e1, zbind_s, hh]
  · obtain ⟨s1, s2, s3, s4, s5⟩ := C.1.st w (fun a k z => by unfold Ast; omega)
    obtain ⟨s6, s7⟩ := C.1.tp w (fun a k z => by unfold Ast; omega)
    have zm := zmk_class C.1 w (fun a k ha hb => by omega)
    have l3 : SC (rn R) (zmk Z m).2.1 h (45 + 7 * m + 3) := by rw [show 45 + 7 * m + 3 = 48 + 7 * m by omega]; exact l3
    have l4 : YC (zmk Z m).2.2.1 h (45 + 7 * m + 1) := by rw [show 45 + 7 * m + 1 = 46 + 7 * m by omega]; exact l4
    have Y2 : YC (zmk Z m).2.2.1 h2 38 := (k2 i2.1 l4).same w2 (fun a k ha hb => by omega)
    have H2 : HC (zmk Z m).2.2.2 h2 37 := (k3 l5).same w2 (fun k => by omega)
    have S2 : SC (rn R) (zmk Z m).2.1 h2 40 := (k1 hn l3).same w2 (fun a b ha hb => by omega)
    obtain ⟨p1, top, p2, p3, p4, p5⟩ := C.2.2
    exact ⟨⟨s1, s2, s3, s4, s5, Y2, H2, zm, s6, s7⟩, S2, ⟨by omega, top, p2, by rw [(w _ _ (by omega)).1]; exact p3, v2, fun i hi => by omega⟩⟩
theorem back_ref (I : RelI R S pc pS Z) (M : RelM R S pc pS Z h) {m : Nat} (hm : m < 4) (hl : (zmk Z m).1 = true) : ∃ h1, g_X12_mark_29 139 (nI m) 1 h = some (true, h1) ∧ RelM R (zmk Z m).2.1 0 pS (zbk Z m) h1 ∧ zsm Ahi h h1 := by
  have hn := I.1.1
  obtain ⟨i1, i2, i3⟩ := I.2.2.2.2.2.2.1 m hm hl
  obtain ⟨l1, l2⟩ := M.1.2.2.2.2.2.2.1 m hm
  obtain ⟨l3, l4, l5⟩ := l2 hl
  have w0 : zsm (fun a k => a = 175 ∧ k = m) h (zpi h 175 m 1) := zsm.pi ⟨rfl, rfl⟩
  have v0 : (zpi h 175 m 1).1 175 m = 1 := by rw [zpi_r, if_pos ⟨rfl, rfl⟩]
  generalize e0 : zpi h 175 m 1 = h0 at *
  obtain ⟨h1, e1, k1, w1⟩ := e_laysLines (h := h0) (a := 1 + m) (b := 0) (by omega) (by omega) (by omega)
  obtain ⟨h2, e2, k2, w2⟩ := e_laysHeard (h := h1) (a := 1 + m) (b := 0) (by omega) (by omega) (by omega)
  obtain ⟨h3, e3, k3, w3⟩ := e_X12_copies (h := h2) (a := 173) (b := 171) (x := 107 * m) (y := 0) (n0 := 428) (n2 := 107) (by decide) (by omega) (by omega) (by omega) (by omega)
  have w4 : zsm (fun a k => a = 139 ∧ k = 49) h3 (zpi h3 139 49 0) := zsm.pi ⟨rfl, rfl⟩
  have v4 : (zpi h3 139 49 0).1 139 49 = 0 := by rw [zpi_r, if_pos ⟨rfl, rfl⟩]
  generalize e4 : zpi h3 139 49 0 = h4 at *
  have w : zsm (fun a k => (a = 175 ∧ k = m) ∨ AL 0 a k ∨ AN 0 a k ∨ AR 171 0 107 a k ∨ (a = 139 ∧ k = 49)) h h4 := ((((w0.mono (fun a k z => Or.inl z)).tr (w1.mono (fun a k z => Or.inr (Or.inl z)))).tr (w2.mono (fun a k z => Or.inr (Or.inr (Or.inl z))))).tr (w3.mono (fun a k z => Or.inr (Or.inr (Or.inr (Or.inl z)))))).tr (w4.mono (fun a k z => Or.inr (Or.inr (Or.inr (Or.inr z)))))
  refine ⟨h4, ?_, ?_, w.mono (fun a k z => by unfold AL AN AR at z; unfold Ahi; omega)⟩
  · unfold g_X12_mark_29 g_X12_mark_47 g_X12_mark_59
    have ev : vp_nar .boolean 1 = 1 := vnar true
    have em : (107 : Int32) * nI m = nI (107 * m) := zmL_107 _
    have n1 : ¬ (1 : Int32) = 0 := by decide
    rw [ev, em, zin_t (by omega) (by omega), zgu_t, zlet_e, zx_nI (by omega)]
    simp only [zr_0_0, zr_0_1, zr_0_2, zr_0_3, zr_0_4, zr_0_5, zr_0_6, zr_0_7, zr_0_8, zr_1_0, zr_3_0, zr_3_1, zr_3_2, zr_3_3, zr_3_4, zr_3_5, zr_3_6, zr_10_0, zr_10_1, zr_13_0, zr_13_1, zr_13_4, zr_14_0, zr_14_1, zr_14_2, zr_14_3, zr_14_4, zr_14_5, zr_14_6, zr_21_0, zr_21_1, zr_24_0, zr_24_1, zr_24_2, zr_26_0, zr_26_1, zr_26_4, zr_27_0, zr_37_0, zr_37_1, zr_38_0, zr_44_0, zr_44_1, zr_44_2, zr_44_3, zr_45_0, zr_45_1, zr_52_0, zr_52_1, zr_59_0, zr_59_1, zr_66_0, zr_66_1, zr_73_0, zr_74_0, zr_74_1, zr_74_2, zr_74_3, zr_74_4, zr_74_5, zr_74_6, zr_74_7, zr_74_8, zr_74_9, zr_74_10, zr_74_11, zr_74_12, zr_74_13, zr_74_14, zr_74_15, zr_139_2, zr_139_10, zr_139_11, zr_139_12, zr_139_13, zr_139_14, zr_139_15, zr_139_16, zr_139_17, zr_139_18, zr_139_19, zr_139_20, zr_139_23, zr_139_24, zr_139_25, zr_139_26, zr_139_27, zr_139_28, zr_139_29, zr_139_30, zr_139_31, zr_139_32, zr_139_33, zr_139_34, zr_139_37, zr_139_38, zr_139_39, zr_139_40, zr_139_41, zr_139_42, zr_139_43, zr_139_44, zr_139_45, zr_139_46, zr_139_47, zr_139_48, zr_139_50, if_neg n1, zaL_1]
    have e1 : g_X12_laysLines h0 139 (nI (1 + m)) 0 = some h1 := e1
    have e2 : g_X12_laysHeard h1 139 (nI (1 + m)) 0 = some h2 := e2
    have e3 : g_X12_copies h2 173 428 (nI (107 * m)) 171 107 0 = some h3 := e3
    rw [e0, e1, zbind_s, e2, zbind_s, e3, zbind_s, zlet_e, e4]
  · obtain ⟨v1, v2, v3, v4'⟩ := M.1.st w (fun a j z => by unfold AL AN AR at z; unfold Asm; omega)
    obtain ⟨v6, v7⟩ := M.1.tp w (fun a j z => by unfold AL AN AR at z; unfold Asm; omega)
    have Y1 : YM (zmk Z m).2.2.1 h4 0 := (((k1 i2.1 (l4.same w0 (fun a j ha hb => by omega))).same w2 (fun a j ha hb => by unfold AN; omega)).same w3 (fun a j ha hb => by unfold AR; omega)).same w4 (fun a j ha hb => by omega)
    have H1 : HM (zmk Z m).2.2.2 h4 0 := ((k2 i3 ((l5.same w0 (fun a j ha hb => by omega)).same w1 (fun a j ha hb => by unfold AL; omega))).same w3 (fun a j ha hb => by unfold AR; omega)).same w4 (fun a j ha hb => by omega)
    have S2 : SM (rn R) (zmk Z m).2.1 h2 173 (107 * m) := ((l3.same w0 (fun j => by omega)).same w1 (fun j => by unfold AL; omega)).same w2 (fun j => by unfold AN; omega)
    have S4 : SM (rn R) (zmk Z m).2.1 h4 171 0 := (S2.copy hn k3).same w4 (fun j => by omega)
    refine ⟨⟨v1, v2, v3, v4', Y1, H1, fun i hi => ?_, v6, v7⟩, S4, ⟨by omega, v4, fun i hi => by omega⟩, M.2.2.2.same w (fun j => by unfold AL AN AR; omega)⟩
    obtain ⟨a1, a2⟩ := M.1.2.2.2.2.2.2.1 i hi
    show h4.1 175 i = zb (zmk Z i).1 ∧ ((zmk Z i).1 = true → SM (rn R) (zmk Z i).2.1 h4 173 (107 * i) ∧ YM (zmk Z i).2.2.1 h4 (1 + i) ∧ HM (zmk Z i).2.2.2 h4 (1 + i))
    refine ⟨?_, fun z => ⟨?_, ?_, ?_⟩⟩
    · by_cases c : i = m
      · subst c
        rw [(w4 _ _ (by omega)).1, (w3 _ _ (by unfold AR; omega)).1, (w2 _ _ (by unfold AN; omega)).1, (w1 _ _ (by unfold AL; omega)).1, v0, hl]; rfl
      · rw [(w _ _ (by unfold AL AN AR; omega)).1]; exact a1
    · exact (a2 z).1.sameR hn w (fun j ha hb => by unfold AL AN AR; omega)
    · exact (((((a2 z).2.1.same w0 (fun a j ha hb => by omega)).sameL (I.2.2.2.2.2.2.1 i hi z).2.1.1 w1 (by omega)).same w2 (fun a j ha hb => by unfold AN; omega)).same w3 (fun a j ha hb => by unfold AR; omega)).same w4 (fun a j ha hb => by omega)
    · exact (((((a2 z).2.2.same w0 (fun a j ha hb => by omega)).same w1 (fun a j ha hb => by unfold AL; omega)).sameN (I.2.2.2.2.2.2.1 i hi z).2.2 w2 (by omega)).same w3 (fun a j ha hb => by unfold AR; omega)).same w4 (fun a j ha hb => by omega)
theorem back_I (I : RelI R S pc pS Z) {m : Nat} (hm : m < 4) (hl : (zmk Z m).1 = true) : RelI R (zmk Z m).2.1 0 pS (zbk Z m) := by
  obtain ⟨i1, i2, i3⟩ := I.2.2.2.2.2.2.1 m hm hl
  exact ⟨I.1, i1, fun i hi => by omega, I.2.2.2.1, i2, i3, I.2.2.2.2.2.2⟩
theorem ok_mark (H : Rel h) (x : Int32) (c : Bool) : OKb h (g_X11_mark h 0 x (zb c)) (fun h => g_X12_mark h 139 x (zb c)) := by
  refine okb H (fun R S pc pS Z I C M => ?_)
  rcases zwith x 3 (by decide) with ⟨m, hm, rfl⟩ | hx
  · have hm4 : m < 4 := by omega
    have wx : ∀ k, g_X12_within k (nI m) 0 3 = some true := fun k => zwith_t hm (m := 0) (by omega) (by decide)
    cases c
    · obtain ⟨h1, e1, C1, w1⟩ := lay_class I C hm4
      refine ⟨true, h1, S, pc, pS, zlayZ Z S m, e1, C1, w1, fun M => ?_⟩
      obtain ⟨h2, e2, M2, w2⟩ := lay_ref I M hm4
      refine ⟨h2, ?_, lay_I I, M2, w2⟩
      show g_X12_mark h1 139 (nI m) 0 = _
      unfold g_X12_mark
      rw [zlet_e, wx, zbind_s, if_neg (by decide), if_pos rfl]
      exact e2
    · cases hl : (zmk Z m).1
      · have e1 : g_X11_mark h 0 (nI m) (zb true) = some (false, h) := by
          obtain ⟨l1, -⟩ := C.1.2.2.2.2.2.2.2.1 m hm4
          unfold g_X11_mark
          rw [if_neg (nI_pos (by omega)), if_pos (by rw [zltR_4 (by omega)]; exact hm4), if_neg (by decide)]
          simp (disch := omega) only [zr_0_0, zr_0_1, zr_0_2, zr_0_3, zr_0_4, zr_0_5, zr_0_6, zr_0_7, zr_0_8, zr_1_0, zr_3_0, zr_3_1, zr_3_2, zr_3_3, zr_3_4, zr_3_5, zr_3_6, zr_10_0, zr_10_1, zr_13_0, zr_13_1, zr_13_4, zr_14_0, zr_14_1, zr_14_2, zr_14_3, zr_14_4, zr_14_5, zr_14_6, zr_21_0, zr_21_1, zr_24_0, zr_24_1, zr_24_2, zr_26_0, zr_26_1, zr_26_4, zr_27_0, zr_37_0, zr_37_1, zr_38_0, zr_44_0, zr_44_1, zr_44_2, zr_44_3, zr_45_0, zr_45_1, zr_52_0, zr_52_1, zr_59_0, zr_59_1, zr_66_0, zr_66_1, zr_73_0, zr_74_0, zr_74_1, zr_74_2, zr_74_3, zr_74_4, zr_74_5, zr_74_6, zr_74_7, zr_74_8, zr_74_9, zr_74_10, zr_74_11, zr_74_12, zr_74_13, zr_74_14, zr_74_15, zr_139_2, zr_139_10, zr_139_11, zr_139_12, zr_139_13, zr_139_14, zr_139_15, zr_139_16, zr_139_17, zr_139_18, zr_139_19, zr_139_20, zr_139_23, zr_139_24, zr_139_25, zr_139_26, zr_139_27, zr_139_28, zr_139_29, zr_139_30, zr_139_31, zr_139_32, zr_139_33, zr_139_34, zr_139_37, zr_139_38, zr_139_39, zr_139_40, zr_139_41, zr_139_42, zr_139_43, zr_139_44, zr_139_45, zr_139_46, zr_139_47, zr_139_48, zr_139_50, zin_t, zx_nI, nI_add, nI_mul, znI_le, znI_lt, znI_eq, znI_neg, zgu_t, zgu_f, zbind_s, zlet_e, zb_eq0, zb_eq1, zb_t, zb_f, zleL_0, zleR_0, zltL_0, zltR_0, zeq_0, zxl_0, zil_0, zmL_1, zmR_1, zaL_1, zaR_1, zleL_1, zleR_1, zltL_1, zltR_1, zeq_1, zxl_1, zil_1, zmL_2, zmR_2, zaL_2, zaR_2, zleL_2, zleR_2, zltL_2, zltR_2, zeq_2, zxl_2, zil_2, zmL_3, zmR_3, zaL_3, zaR_3, zleL_3, zleR_3, zltL_3, zltR_3, zeq_3, zxl_3, zil_3, zmL_4, zmR_4, zaL_4, zaR_4, zleL_4, zleR_4, zltL_4, zltR_4, zeq_4, zxl_4, zil_4, zmL_5, zmR_5, zaL_5, zaR_5, zleL_5, zleR_5, zltL_5, zltR_5, zeq_5, zxl_5, zil_5, zmL_6, zmR_6, zaL_6, zaR_6, zleL_6, zleR_6, zltL_6, zltR_6, zeq_6, zxl_6, zil_6, zmL_7, zmR_7, zaL_7, zaR_7, zleL_7, zleR_7, zltL_7, zltR_7, zeq_7, zxl_7, zil_7, zmL_8, zmR_8, zaL_8, zaR_8, zleL_8, zleR_8, zltL_8, zltR_8, zeq_8, zxl_8, zil_8, zmL_9, zmR_9, zaL_9, zaR_9, zleL_9, zleR_9, zltL_9, zltR_9, zeq_9, zxl_9, zil_9, zmL_10, zmR_10, zaL_10, zaR_10, zleL_10, zleR_10, zltL_10, zltR_10, zeq_10, zxl_10, zil_10, zmL_14, zmR_14, zaL_14, zaR_14, zleL_14, zleR_14, zltL_14, zltR_14, zeq_14, zxl_14, zil_14, zmL_15, zmR_15, zaL_15, zaR_15, zleL_15, zleR_15, zltL_15, zltR_15, zeq_15, zxl_15, zil_15, zmL_16, zmR_16, zaL_16, zaR_16, zleL_16, zleR_16, zltL_16, zltR_16, zeq_16, zxl_16, zil_16, zmL_20, zmR_20, zaL_20, zaR_20, zleL_20, zleR_20, zltL_20, zltR_20, zeq_20, zxl_20, zil_20, zmL_22, zmR_22, zaL_22, zaR_22, zleL_22, zleR_22, zltL_22, zltR_22, zeq_22, zxl_22, zil_22, zmL_23, zmR_23, zaL_23, zaR_23, zleL_23, zleR_23, zltL_23, zltR_23, zeq_23, zxl_23, zil_23, zmL_24, zmR_24, zaL_24, zaR_24, zleL_24, zleR_24, zltL_24, zltR_24, zeq_24, zxl_24, zil_24, zmL_25, zmR_25, zaL_25, zaR_25, zleL_25, zleR_25, zltL_25, zltR_25, zeq_25, zxl_25, zil_25, zmL_26, zmR_26, zaL_26, zaR_26, zleL_26, zleR_26, zltL_26, zltR_26, zeq_26, zxl_26, zil_26, zmL_32, zmR_32, zaL_32, zaR_32, zleL_32, zleR_32, zltL_32, zltR_32, zeq_32, zxl_32, zil_32, zmL_40, zmR_40, zaL_40, zaR_40, zleL_40, zleR_40, zltL_40, zltR_40, zeq_40, zxl_40, zil_40, zmL_49, zmR_49, zaL_49, zaR_49, zleL_49, zleR_49, zltL_49, zltR_49, zeq_49, zxl_49, zil_49, zmL_58, zmR_58, zaL_58, zaR_58, zleL_58, zleR_58, zltL_58, zltR_58, zeq_58, zxl_58, zil_58, zmL_99, zmR_99, zaL_99, zaR_99, zleL_99, zleR_99, zltL_99, zltR_99, zeq_99, zxl_99, zil_99, zmL_100, zmR_100, zaL_100, zaR_100, zleL_100, zleR_100, zltL_100, zltR_100, zeq_100, zxl_100, zil_100, zmL_107, zmR_107, zaL_107, zaR_107, zleL_107, zleR_107, zltL_107, zltR_107, zeq_107, zxl_107, zil_107, zmL_126, zmR_126, zaL_126, zaR_126, zleL_126, zleR_126, zltL_126, zltR_126, zeq_126, zxl_126, zil_126, zmL_1000, zmR_1000, zaL_1000, zaR_1000, zleL_1000, zleR_1000, zltL_1000, zltR_1000, zeq_1000, zxl_1000, zil_1000, zmL_1605, zmR_1605, zaL_1605, zaR_1605, zleL_1605, zleR_1605, zltL_1605, zltR_1605, zeq_1605, zxl_1605, zil_1605]
          rw [(momk m hm4).2, l1, hl, if_pos zb_f]
        rw [e1]
        refine okb_no I C (fun M => ?_)
        obtain ⟨l1, -⟩ := M.1.2.2.2.2.2.2.1 m hm4
        show g_X12_mark h 139 (nI m) (zb true) = _
        unfold g_X12_mark
        rw [zlet_e, wx, zbind_s, if_neg (by decide), if_neg (by decide), zin_t (by omega) (by omega), zgu_t, zx_nI (by omega)]
        simp only [zr_0_0, zr_0_1, zr_0_2, zr_0_3, zr_0_4, zr_0_5, zr_0_6, zr_0_7, zr_0_8, zr_1_0, zr_3_0, zr_3_1, zr_3_2, zr_3_3, zr_3_4, zr_3_5, zr_3_6, zr_10_0, zr_10_1, zr_13_0, zr_13_1, zr_13_4, zr_14_0, zr_14_1, zr_14_2, zr_14_3, zr_14_4, zr_14_5, zr_14_6, zr_21_0, zr_21_1, zr_24_0, zr_24_1, zr_24_2, zr_26_0, zr_26_1, zr_26_4, zr_27_0, zr_37_0, zr_37_1, zr_38_0, zr_44_0, zr_44_1, zr_44_2, zr_44_3, zr_45_0, zr_45_1, zr_52_0, zr_52_1, zr_59_0, zr_59_1, zr_66_0, zr_66_1, zr_73_0, zr_74_0, zr_74_1, zr_74_2, zr_74_3, zr_74_4, zr_74_5, zr_74_6, zr_74_7, zr_74_8, zr_74_9, zr_74_10, zr_74_11, zr_74_12, zr_74_13, zr_74_14, zr_74_15, zr_139_2, zr_139_10, zr_139_11, zr_139_12, zr_139_13, zr_139_14, zr_139_15, zr_139_16, zr_139_17, zr_139_18, zr_139_19, zr_139_20, zr_139_23, zr_139_24, zr_139_25, zr_139_26, zr_139_27, zr_139_28, zr_139_29, zr_139_30, zr_139_31, zr_139_32, zr_139_33, zr_139_34, zr_139_37, zr_139_38, zr_139_39, zr_139_40, zr_139_41, zr_139_42, zr_139_43, zr_139_44, zr_139_45, zr_139_46, zr_139_47, zr_139_48, zr_139_50]
        rw [l1, hl, if_pos zb_f]
      · obtain ⟨h1, e1, C1, w1⟩ := back_class I C hm4 hl
        refine ⟨true, h1, _, 0, pS, zbk Z m, e1, C1, w1, fun M => ?_⟩
        obtain ⟨h2, e2, M2, w2⟩ := back_ref I M hm4 hl
        refine ⟨h2, ?_, back_I I hm4 hl, M2, w2⟩
        obtain ⟨l1, -⟩ := M.1.2.2.2.2.2.2.1 m hm4
        show g_X12_mark h1 139 (nI m) 1 = _
        unfold g_X12_mark
        rw [zlet_e, wx, zbind_s, if_neg (by decide), if_neg (by decide), zin_t (by omega) (by omega), zgu_t, zx_nI (by omega)]
        simp only [zr_0_0, zr_0_1, zr_0_2, zr_0_3, zr_0_4, zr_0_5, zr_0_6, zr_0_7, zr_0_8, zr_1_0, zr_3_0, zr_3_1, zr_3_2, zr_3_3, zr_3_4, zr_3_5, zr_3_6, zr_10_0, zr_10_1, zr_13_0, zr_13_1, zr_13_4, zr_14_0, zr_14_1, zr_14_2, zr_14_3, zr_14_4, zr_14_5, zr_14_6, zr_21_0, zr_21_1, zr_24_0, zr_24_1, zr_24_2, zr_26_0, zr_26_1, zr_26_4, zr_27_0, zr_37_0, zr_37_1, zr_38_0, zr_44_0, zr_44_1, zr_44_2, zr_44_3, zr_45_0, zr_45_1, zr_52_0, zr_52_1, zr_59_0, zr_59_1, zr_66_0, zr_66_1, zr_73_0, zr_74_0, zr_74_1, zr_74_2, zr_74_3, zr_74_4, zr_74_5, zr_74_6, zr_74_7, zr_74_8, zr_74_9, zr_74_10, zr_74_11, zr_74_12, zr_74_13, zr_74_14, zr_74_15, zr_139_2, zr_139_10, zr_139_11, zr_139_12, zr_139_13, zr_139_14, zr_139_15, zr_139_16, zr_139_17, zr_139_18, zr_139_19, zr_139_20, zr_139_23, zr_139_24, zr_139_25, zr_139_26, zr_139_27, zr_139_28, zr_139_29, zr_139_30, zr_139_31, zr_139_32, zr_139_33, zr_139_34, zr_139_37, zr_139_38, zr_139_39, zr_139_40, zr_139_41, zr_139_42, zr_139_43, zr_139_44, zr_139_45, zr_139_46, zr_139_47, zr_139_48, zr_139_50]
        rw [l1, hl, if_neg (by decide)]
        exact e2
  · have e1 : g_X11_mark h 0 x (zb c) = some (false, h) := by
      unfold g_X11_mark
      by_cases d : x < 0
      · rw [if_pos d]
      · have h3 := hx.resolve_left d
        have : ¬ x < 4 := by
          rw [Int32.lt_iff_toInt_lt] at h3 ⊢
          rw [show (nI 3).toInt = 3 by decide] at h3
          rw [show (4 : Int32).toInt = 4 by decide]
          omega
        rw [if_neg d, if_neg this]
    rw [e1]
    refine okb_no I C (fun M => ?_)
    show g_X12_mark h 139 x (zb c) = _
    unfold g_X12_mark
    have wx : g_X12_within (zpi h 139 0 0) x 0 3 = some false := zwith_f (b := 3) hx
    rw [zlet_e, wx]; rfl
end P6
