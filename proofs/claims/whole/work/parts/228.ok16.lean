/-! ages -/
section P8
variable {R : zRp} {S S' S0 : zSt} {pc pc' : Nat} {pS pS' : Nat → zSt} {Z : zZ} {h h' h1 h2 : zH} {t : Nat}
def iag2 (R : zRp) (_ : Nat) (s : (zSt × Nat) × Nat × Nat) : (zSt × Nat) × Nat × Nat := ((idr R s.1).1, s.2.1 + (idr R s.1).2, s.2.2 + (if ig R (idr R s.1).1.1 = ig R s.1.1 then 0 else 1))
theorem AQ51 {a k : Nat} (z : AM a k ∨ A51 a k) : AQ a k := by unfold AM A51 at z; unfold AQ; omega
theorem ok_ages (H : Rel h) (x y w : Int32) : OKw h (g_X11_ages h 0 x y w) (fun h => g_X12_ages h 139 x y w) := by
  refine okt H (fun R S pc pS Z I C => ?_)
  have hn := I.1.1
  by_cases hx : x < 0 ∨ 9999 < x
  · have e1 : g_X11_ages h 0 x y w = some (-1, h) := by
      unfold g_X11_ages
      by_cases c : x < 0
      · rw [if_pos c]
      · rw [if_neg c, if_pos (hx.resolve_left c)]
    rw [e1]
    refine okt_no (fun k hk => ?_)
    show g_X12_ages h 139 x y w = _
    unfold g_X12_ages
    rw [zlet_e, ← hk, zwith_f hx]; rfl
  · have hx1 : ¬ x < 0 := fun z => hx (Or.inl z)
    have hx2 : ¬ 9999 < x := fun z => hx (Or.inr z)
    have wx : ∀ k, g_X12_within k x 0 9999 = some true := fun k => by unfold g_X12_within; rw [if_neg hx1, if_neg hx2]
    by_cases hy : y < 1 ∨ 99 < y
    · have e1 : g_X11_ages h 0 x y w = some (-1, h) := by
        unfold g_X11_ages
        rw [if_neg hx1, if_neg hx2]
        by_cases c : y < 1
        · rw [if_pos c]
        · rw [if_neg c, if_pos (hy.resolve_left c)]
      rw [e1]
      refine okt_no (fun k hk => ?_)
      show g_X12_ages h 139 x y w = _
      unfold g_X12_ages
      rw [zlet_e, ← hk, wx, zwith_f hy]; rfl
    · have hy1 : ¬ y < 1 := fun z => hy (Or.inl z)
      have hy2 : ¬ 99 < y := fun z => hy (Or.inr z)
      have wy : ∀ k, g_X12_within k y 1 99 = some true := fun k => by unfold g_X12_within; rw [if_neg hy1, if_neg hy2]
      rcases zwith w 2 (by decide) with ⟨w, hw, rfl⟩ | hwx
      · have hy0 : ¬ y < 0 := fun z => hy1 (by rw [Int32.lt_iff_toInt_lt] at z ⊢; rw [show (0 : Int32).toInt = 0 by decide] at z; rw [show (1 : Int32).toInt = 1 by decide]; omega)
        have ww : ∀ k, g_X12_within k (nI w) 0 2 = some true := fun k => zwith_t hw (m := 0) (by omega) (by decide)
        obtain ⟨g, hg, rfl⟩ := nI_of hx1
        obtain ⟨d, hd, rfl⟩ := nI_of hy0
        have hd99 : d ≤ 99 := by
          have : ¬ 99 < d := fun z => hy2 ((nI_ltI (a := 99) (by decide) hd).mpr z)
          omega
        obtain ⟨h3, e3, C3, w3⟩ := C.try40 I
        have w3b : zsm A0 h3 (zpl h3 0 9 (lN g)) := zsm.pl rfl
        have d3 : (zpl h3 0 9 (lN g)).2 0 9 = lN g := by rw [zpl_r, if_pos ⟨rfl, rfl⟩]
        have C3b := C3.z0 w3b
        have w3c : zsm A33 h (zpl h3 0 9 (lN g)) := w3.tr (w3b.mono (fun a k z => by unfold A0 at z; unfold A33; omega))
        obtain ⟨h4, m, e4, ⟨C4, w4, -, -⟩⟩ := zloopH (L := fun n i (s : (zSt × Nat) × Nat × Nat) h => g_X11_ages_62 0 n (nI d) (nI w) (nI s.2.1) (nI s.2.2) i h) (N := d) (f := iag2 R) (fun _ s h1 => CL R s.1.1 h1 33 ∧ zsm A33 h h1 ∧ h1.2 0 9 = lN s.1.2 ∧ s.1.2 < 2147483648)
          (by
            intro n i s h1 hi ⟨H1, w1, d1, l1⟩
            obtain ⟨⟨S1, g1⟩, v1, t1⟩ := s
            have H1 : CL R S1 h1 33 := H1
            show ∃ h', g_X11_ages_62 0 (n + 1) (nI d) (nI w) (nI v1) (nI t1) (nI i) h1 = g_X11_ages_62 0 n (nI d) (nI w) (nI (iag2 R i ((S1, g1), v1, t1)).2.1) (nI (iag2 R i ((S1, g1), v1, t1)).2.2) (nI (i + 1)) h' ∧ _
            obtain ⟨h2, e2, H2, w2, d2, l2⟩ := e_drawnDay H1 l1 d1
            refine ⟨h2, ?_, H2, w1.tr w2, d2, l2⟩
            rw [g_X11_ages_62]
            simp only [zr_0_0, zr_0_1, zr_0_2, zr_0_3, zr_0_4, zr_0_5, zr_0_6, zr_0_7, zr_0_8, zr_1_0, zr_3_0, zr_3_1, zr_3_2, zr_3_3, zr_3_4, zr_3_5, zr_3_6, zr_10_0, zr_10_1, zr_13_0, zr_13_1, zr_13_4, zr_14_0, zr_14_1, zr_14_2, zr_14_3, zr_14_4, zr_14_5, zr_14_6, zr_21_0, zr_21_1, zr_24_0, zr_24_1, zr_24_2, zr_26_0, zr_26_1, zr_26_4, zr_27_0, zr_37_0, zr_37_1, zr_38_0, zr_44_0, zr_44_1, zr_44_2, zr_44_3, zr_45_0, zr_45_1, zr_52_0, zr_52_1, zr_59_0, zr_59_1, zr_66_0, zr_66_1, zr_73_0, zr_74_0, zr_74_1, zr_74_2, zr_74_3, zr_74_4, zr_74_5, zr_74_6, zr_74_7, zr_74_8, zr_74_9, zr_74_10, zr_74_11, zr_74_12, zr_74_13, zr_74_14, zr_74_15, zr_139_2, zr_139_10, zr_139_11, zr_139_12, zr_139_13, zr_139_14, zr_139_15, zr_139_16, zr_139_17, zr_139_18, zr_139_19, zr_139_20, zr_139_23, zr_139_24, zr_139_25, zr_139_26, zr_139_27, zr_139_28, zr_139_29, zr_139_30, zr_139_31, zr_139_32, zr_139_33, zr_139_34, zr_139_37, zr_139_38, zr_139_39, zr_139_40, zr_139_41, zr_139_42, zr_139_43, zr_139_44, zr_139_45, zr_139_46, zr_139_47, zr_139_48, zr_139_50]
            rw [if_neg (by rw [znI_le hd (by omega)]; omega), e_X7_governor H1.1, zbind_s, e2, zbind_s]
            simp only
            rw [e_X7_governor H2.1, zbind_s]
            have gi : (zo (ig R (idr R (S1, g1)).1.1) = zo (ig R S1)) = (ig R (idr R (S1, g1)).1.1 = ig R S1) := zo_inj (fun x hx => by have := (ig_lt hx).1; omega) (fun x hx => by have := (ig_lt hx).1; omega)
            simp only [gi, nI_add, nI_1]
            unfold iag2
            simp only
            by_cases c : ig R (idr R (S1, g1)).1.1 = ig R S1
            · simp only [if_pos c, Nat.add_zero]
            · simp only [if_neg c])
          d 0 ((S, g), 0, 0) zfu (zpl h3 0 9 (lN g)) (by omega) (by show d < 4000; omega) ⟨C3b, w3c, d3, hg⟩
        have al4 : h4.1 33 4 = nI (sa (zfold (iag2 R) 0 d ((S, g), 0, 0)).1.1) := C4.1.a
        generalize hF : zfold (iag2 R) 0 d ((S, g), 0, 0) = F at *
        have e5 : g_X11_ages h 0 (nI g) (nI d) (nI w) = some (if w = 2 then nI (sa F.1.1) else if w = 0 then nI F.2.1 else nI F.2.2, h4) := by
          unfold g_X11_ages
          rw [if_neg hx1, if_neg hx2, if_neg hy1, if_neg hy2, if_neg (nI_pos (by omega)), if_pos (by rw [zleR_2 (by omega)]; exact hw)]
          simp only [zr_0_0, zr_0_1, zr_0_2, zr_0_3, zr_0_4, zr_0_5, zr_0_6, zr_0_7, zr_0_8, zr_1_0, zr_3_0, zr_3_1, zr_3_2, zr_3_3, zr_3_4, zr_3_5, zr_3_6, zr_10_0, zr_10_1, zr_13_0, zr_13_1, zr_13_4, zr_14_0, zr_14_1, zr_14_2, zr_14_3, zr_14_4, zr_14_5, zr_14_6, zr_21_0, zr_21_1, zr_24_0, zr_24_1, zr_24_2, zr_26_0, zr_26_1, zr_26_4, zr_27_0, zr_37_0, zr_37_1, zr_38_0, zr_44_0, zr_44_1, zr_44_2, zr_44_3, zr_45_0, zr_45_1, zr_52_0, zr_52_1, zr_59_0, zr_59_1, zr_66_0, zr_66_1, zr_73_0, zr_74_0, zr_74_1, zr_74_2, zr_74_3, zr_74_4, zr_74_5, zr_74_6, zr_74_7, zr_74_8, zr_74_9, zr_74_10, zr_74_11, zr_74_12, zr_74_13, zr_74_14, zr_74_15, zr_139_2, zr_139_10, zr_139_11, zr_139_12, zr_139_13, zr_139_14, zr_139_15, zr_139_16, zr_139_17, zr_139_18, zr_139_19, zr_139_20, zr_139_23, zr_139_24, zr_139_25, zr_139_26, zr_139_27, zr_139_28, zr_139_29, zr_139_30, zr_139_31, zr_139_32, zr_139_33, zr_139_34, zr_139_37, zr_139_38, zr_139_39, zr_139_40, zr_139_41, zr_139_42, zr_139_43, zr_139_44, zr_139_45, zr_139_46, zr_139_47, zr_139_48, zr_139_50]
          rw [e3, zbind_s, zlet_e, nI_l hg]
          refine Eq.trans e4 ?_
          show g_X11_ages_62 0 (m + 1) (nI d) (nI w) (nI F.2.1) (nI F.2.2) (nI d) h4 = _
          rw [g_X11_ages_62, if_pos (by rw [znI_le hd hd]; exact Nat.le_refl _)]
          simp (disch := omega) only [al4, zr_0_0, zr_0_1, zr_0_2, zr_0_3, zr_0_4, zr_0_5, zr_0_6, zr_0_7, zr_0_8, zr_1_0, zr_3_0, zr_3_1, zr_3_2, zr_3_3, zr_3_4, zr_3_5, zr_3_6, zr_10_0, zr_10_1, zr_13_0, zr_13_1, zr_13_4, zr_14_0, zr_14_1, zr_14_2, zr_14_3, zr_14_4, zr_14_5, zr_14_6, zr_21_0, zr_21_1, zr_24_0, zr_24_1, zr_24_2, zr_26_0, zr_26_1, zr_26_4, zr_27_0, zr_37_0, zr_37_1, zr_38_0, zr_44_0, zr_44_1, zr_44_2, zr_44_3, zr_45_0, zr_45_1, zr_52_0, zr_52_1, zr_59_0, zr_59_1, zr_66_0, zr_66_1, zr_73_0, zr_74_0, zr_74_1, zr_74_2, zr_74_3, zr_74_4, zr_74_5, zr_74_6, zr_74_7, zr_74_8, zr_74_9, zr_74_10, zr_74_11, zr_74_12, zr_74_13, zr_74_14, zr_74_15, zr_139_2, zr_139_10, zr_139_11, zr_139_12, zr_139_13, zr_139_14, zr_139_15, zr_139_16, zr_139_17, zr_139_18, zr_139_19, zr_139_20, zr_139_23, zr_139_24, zr_139_25, zr_139_26, zr_139_27, zr_139_28, zr_139_29, zr_139_30, zr_139_31, zr_139_32, zr_139_33, zr_139_34, zr_139_37, zr_139_38, zr_139_39, zr_139_40, zr_139_41, zr_139_42, zr_139_43, zr_139_44, zr_139_45, zr_139_46, zr_139_47, zr_139_48, zr_139_50, zin_t, zx_nI, nI_add, nI_mul, znI_le, znI_lt, znI_eq, znI_neg, zgu_t, zgu_f, zbind_s, zlet_e, zb_eq0, zb_eq1, zb_t, zb_f, zleL_0, zleR_0, zltL_0, zltR_0, zeq_0, zxl_0, zil_0, zmL_1, zmR_1, zaL_1, zaR_1, zleL_1, zleR_1, zltL_1, zltR_1, zeq_1, zxl_1, zil_1, zmL_2, zmR_2, zaL_2, zaR_2, zleL_2, zleR_2, zltL_2, zltR_2, zeq_2, zxl_2, zil_2, zmL_3, zmR_3, zaL_3, zaR_3, zleL_3, zleR_3, zltL_3, zltR_3, zeq_3, zxl_3, zil_3, zmL_4, zmR_4, zaL_4, zaR_4, zleL_4, zleR_4, zltL_4, zltR_4, zeq_4, zxl_4, zil_4, zmL_5, zmR_5, zaL_5, zaR_5, zleL_5, zleR_5, zltL_5, zltR_5, zeq_5, zxl_5, zil_5, zmL_6, zmR_6, zaL_6, zaR_6, zleL_6, zleR_6, zltL_6, zltR_6, zeq_6, zxl_6, zil_6, zmL_7, zmR_7, zaL_7, zaR_7, zleL_7, zleR_7, zltL_7, zltR_7, zeq_7, zxl_7, zil_7, zmL_8, zmR_8, zaL_8, zaR_8, zleL_8, zleR_8, zltL_8, zltR_8, zeq_8, zxl_8, zil_8, zmL_9, zmR_9, zaL_9, zaR_9, zleL_9, zleR_9, zltL_9, zltR_9, zeq_9, zxl_9, zil_9, zmL_10, zmR_10, zaL_10, zaR_10, zleL_10, zleR_10, zltL_10, zltR_10, zeq_10, zxl_10, zil_10, zmL_14, zmR_14, zaL_14, zaR_14, zleL_14, zleR_14, zltL_14, zltR_14, zeq_14, zxl_14, zil_14, zmL_15, zmR_15, zaL_15, zaR_15, zleL_15, zleR_15, zltL_15, zltR_15, zeq_15, zxl_15, zil_15, zmL_16, zmR_16, zaL_16, zaR_16, zleL_16, zleR_16, zltL_16, zltR_16, zeq_16, zxl_16, zil_16, zmL_20, zmR_20, zaL_20, zaR_20, zleL_20, zleR_20, zltL_20, zltR_20, zeq_20, zxl_20, zil_20, zmL_22, zmR_22, zaL_22, zaR_22, zleL_22, zleR_22, zltL_22, zltR_22, zeq_22, zxl_22, zil_22, zmL_23, zmR_23, zaL_23, zaR_23, zleL_23, zleR_23, zltL_23, zltR_23, zeq_23, zxl_23, zil_23, zmL_24, zmR_24, zaL_24, zaR_24, zleL_24, zleR_24, zltL_24, zltR_24, zeq_24, zxl_24, zil_24, zmL_25, zmR_25, zaL_25, zaR_25, zleL_25, zleR_25, zltL_25, zltR_25, zeq_25, zxl_25, zil_25, zmL_26, zmR_26, zaL_26, zaR_26, zleL_26, zleR_26, zltL_26, zltR_26, zeq_26, zxl_26, zil_26, zmL_32, zmR_32, zaL_32, zaR_32, zleL_32, zleR_32, zltL_32, zltR_32, zeq_32, zxl_32, zil_32, zmL_40, zmR_40, zaL_40, zaR_40, zleL_40, zleR_40, zltL_40, zltR_40, zeq_40, zxl_40, zil_40, zmL_49, zmR_49, zaL_49, zaR_49, zleL_49, zleR_49, zltL_49, zltR_49, zeq_49, zxl_49, zil_49, zmL_58, zmR_58, zaL_58, zaR_58, zleL_58, zleR_58, zltL_58, zltR_58, zeq_58, zxl_58, zil_58, zmL_99, zmR_99, zaL_99, zaR_99, zleL_99, zleR_99, zltL_99, zltR_99, zeq_99, zxl_99, zil_99, zmL_100, zmR_100, zaL_100, zaR_100, zleL_100, zleR_100, zltL_100, zltR_100, zeq_100, zxl_100, zil_100, zmL_107, zmR_107, zaL_107, zaR_107, zleL_107, zleR_107, zltL_107, zltR_107, zeq_107, zxl_107, zil_107, zmL_126, zmR_126, zaL_126, zaR_126, zleL_126, zleR_126, zltL_126, zltR_126, zeq_126, zxl_126, zil_126, zmL_1000, zmR_1000, zaL_1000, zaR_1000, zleL_1000, zleR_1000, zltL_1000, zltR_1000, zeq_1000, zxl_1000, zil_1000, zmL_1605, zmR_1605, zaL_1605, zaR_1605, zleL_1605, zleR_1605, zltL_1605, zltR_1605, zeq_1605, zxl_1605, zil_1605]
          by_cases c2 : w = 2
          · rw [if_pos c2, if_pos c2]
          · rw [if_neg c2, if_neg c2]
            by_cases c0 : w = 0
            · rw [if_pos c0, if_pos c0]
            · rw [if_neg c0, if_neg c0]
        rw [e5]
        refine ⟨_, h4, rfl, w4, fun k hk M => ?_⟩
        have u0 : zsm A51 k (zpl k 139 51 (lN g)) := zsm.pl ⟨rfl, rfl⟩
        have d0 : (zpl k 139 51 (lN g)).2 139 51 = lN g := by rw [zpl_r, if_pos ⟨rfl, rfl⟩]
        have u0' : zsm AQ k (zpl k 139 51 (lN g)) := u0.mono (fun a k z => by unfold A51 at z; unfold AQ; omega)
        generalize hk0 : zpl k 139 51 (lN g) = k0 at *
        have M0' : RelM R S pc pS Z k0 := M.tr u0' (M.2.1.same u0 (fun j => by unfold A51; omega))
        obtain ⟨k3, f3, N3, s3, u3⟩ := M0'.aside I
        have dk3 : k3.2 139 51 = lN g := by
          obtain ⟨h9, e9, k9, w9⟩ := e_X12_copies (h := k0) (a := 171) (b := 172) (x := 0) (y := 0) (n0 := 107) (n2 := 107) (by decide) (by omega) (by omega) (by omega) (by omega)
          have : some k3 = some h9 := f3.symm.trans e9
          cases this
          rw [(w9 139 51 (by unfold AR; omega)).2]; exact d0
        obtain ⟨k4, m2, f4, ⟨N4, s4, u4, -, -⟩⟩ := zloopH (L := fun n i (s : (zSt × Nat) × Nat × Nat) h => g_X12_ages_65 139 n (nI d) (nI w) (nI s.2.1) (nI s.2.2) i h) (N := d) (f := iag2 R) (fun _ s h1 => ML R s.1.1 h1 ∧ SM (rn R) S h1 172 0 ∧ zsm AQ k h1 ∧ (rn R = 0 ∨ h1.2 139 51 = lN s.1.2) ∧ s.1.2 < 2147483648)
          (by
            intro n i s h1 hi ⟨H1, sb, w1, d1, l1⟩
            obtain ⟨⟨S1, g1⟩, v1, t1⟩ := s
            have H1 : ML R S1 h1 := H1
            show ∃ h', g_X12_ages_65 139 (n + 1) (nI d) (nI w) (nI v1) (nI t1) (nI i) h1 = g_X12_ages_65 139 n (nI d) (nI w) (nI (iag2 R i ((S1, g1), v1, t1)).2.1) (nI (iag2 R i ((S1, g1), v1, t1)).2.2) (nI (i + 1)) h' ∧ _
            obtain ⟨h2, e2, H2, w2, d2, l2⟩ := e_livesDay H1 l1 d1
            refine ⟨h2, ?_, H2, sb.same w2 (fun j => by unfold AM A51; omega), w1.tr (w2.mono (fun a k z => AQ51 z)), d2, l2⟩
            rw [g_X12_ages_65]
            rw [if_neg (by rw [znI_le hd (by omega)]; omega), e_X12_gov H1.1 H1.2.2, zbind_s, e2, zbind_s]
            simp only
            rw [e_X12_gov H2.1 H2.2.2, zbind_s]
            have gi : (zo (ig R (idr R (S1, g1)).1.1) = zo (ig R S1)) = (ig R (idr R (S1, g1)).1.1 = ig R S1) := zo_inj (fun x hx => by have := (ig_lt hx).1; omega) (fun x hx => by have := (ig_lt hx).1; omega)
            simp only [gi, nI_add, nI_1, nI_a0]
            unfold iag2
            simp only
            by_cases c : ig R (idr R (S1, g1)).1.1 = ig R S1
            · simp only [if_pos c, Nat.add_zero]
            · simp only [if_neg c])
          d 0 ((S, g), 0, 0) zfu k3 (by omega) (by show d < 4000; omega) ⟨N3, s3, u0'.tr u3, Or.inr dk3, hg⟩
        rw [hF] at N4 f4
        obtain ⟨k5, f5, s5, u5⟩ := e_back hn s4
        refine ⟨k5, ?_, u4.tr u5, s5⟩
        show g_X12_ages h4 139 (nI g) (nI d) (nI w) = _
        unfold g_X12_ages
        rw [zlet_e, ← hk, wx, wy, ww]
        simp only [zbind_s, zb_eq0, Bool.true_eq_false, if_false, zlet_e]
        simp only [zr_0_0, zr_0_1, zr_0_2, zr_0_3, zr_0_4, zr_0_5, zr_0_6, zr_0_7, zr_0_8, zr_1_0, zr_3_0, zr_3_1, zr_3_2, zr_3_3, zr_3_4, zr_3_5, zr_3_6, zr_10_0, zr_10_1, zr_13_0, zr_13_1, zr_13_4, zr_14_0, zr_14_1, zr_14_2, zr_14_3, zr_14_4, zr_14_5, zr_14_6, zr_21_0, zr_21_1, zr_24_0, zr_24_1, zr_24_2, zr_26_0, zr_26_1, zr_26_4, zr_27_0, zr_37_0, zr_37_1, zr_38_0, zr_44_0, zr_44_1, zr_44_2, zr_44_3, zr_45_0, zr_45_1, zr_52_0, zr_52_1, zr_59_0, zr_59_1, zr_66_0, zr_66_1, zr_73_0, zr_74_0, zr_74_1, zr_74_2, zr_74_3, zr_74_4, zr_74_5, zr_74_6, zr_74_7, zr_74_8, zr_74_9, zr_74_10, zr_74_11, zr_74_12, zr_74_13, zr_74_14, zr_74_15, zr_139_2, zr_139_10, zr_139_11, zr_139_12, zr_139_13, zr_139_14, zr_139_15, zr_139_16, zr_139_17, zr_139_18, zr_139_19, zr_139_20, zr_139_23, zr_139_24, zr_139_25, zr_139_26, zr_139_27, zr_139_28, zr_139_29, zr_139_30, zr_139_31, zr_139_32, zr_139_33, zr_139_34, zr_139_37, zr_139_38, zr_139_39, zr_139_40, zr_139_41, zr_139_42, zr_139_43, zr_139_44, zr_139_45, zr_139_46, zr_139_47, zr_139_48, zr_139_50]
        rw [nI_l hg, hk0, f3, zbind_s]
        refine Eq.trans f4 ?_
        show g_X12_ages_65 139 (m2 + 1) (nI d) (nI w) (nI F.2.1) (nI F.2.2) (nI d) k4 = _
        rw [g_X12_ages_65, if_pos (by rw [znI_le hd hd]; exact Nat.le_refl _)]
        simp (disch := omega) only [N4.1.a, zr_0_0, zr_0_1, zr_0_2, zr_0_3, zr_0_4, zr_0_5, zr_0_6, zr_0_7, zr_0_8, zr_1_0, zr_3_0, zr_3_1, zr_3_2, zr_3_3, zr_3_4, zr_3_5, zr_3_6, zr_10_0, zr_10_1, zr_13_0, zr_13_1, zr_13_4, zr_14_0, zr_14_1, zr_14_2, zr_14_3, zr_14_4, zr_14_5, zr_14_6, zr_21_0, zr_21_1, zr_24_0, zr_24_1, zr_24_2, zr_26_0, zr_26_1, zr_26_4, zr_27_0, zr_37_0, zr_37_1, zr_38_0, zr_44_0, zr_44_1, zr_44_2, zr_44_3, zr_45_0, zr_45_1, zr_52_0, zr_52_1, zr_59_0, zr_59_1, zr_66_0, zr_66_1, zr_73_0, zr_74_0, zr_74_1, zr_74_2, zr_74_3, zr_74_4, zr_74_5, zr_74_6, zr_74_7, zr_74_8, zr_74_9, zr_74_10, zr_74_11, zr_74_12, zr_74_13, zr_74_14, zr_74_15, zr_139_2, zr_139_10, zr_139_11, zr_139_12, zr_139_13, zr_139_14, zr_139_15, zr_139_16, zr_139_17, zr_139_18, zr_139_19, zr_139_20, zr_139_23, zr_139_24, zr_139_25, zr_139_26, zr_139_27, zr_139_28, zr_139_29, zr_139_30, zr_139_31, zr_139_32, zr_139_33, zr_139_34, zr_139_37, zr_139_38, zr_139_39, zr_139_40, zr_139_41, zr_139_42, zr_139_43, zr_139_44, zr_139_45, zr_139_46, zr_139_47, zr_139_48, zr_139_50, zin_t, zx_nI, nI_add, nI_mul, znI_le, znI_lt, znI_eq, znI_neg, zgu_t, zgu_f, zbind_s, zlet_e, zb_eq0, zb_eq1, zb_t, zb_f, zleL_0, zleR_0, zltL_0, zltR_0, zeq_0, zxl_0, zil_0, zmL_1, zmR_1, zaL_1, zaR_1, zleL_1, zleR_1, zltL_1, zltR_1, zeq_1, zxl_1, zil_1, zmL_2, zmR_2, zaL_2, zaR_2, zleL_2, zleR_2, zltL_2, zltR_2, zeq_2, zxl_2, zil_2, zmL_3, zmR_3, zaL_3, zaR_3, zleL_3, zleR_3, zltL_3, zltR_3, zeq_3, zxl_3, zil_3, zmL_4, zmR_4, zaL_4, zaR_4, zleL_4, zleR_4, zltL_4, zltR_4, zeq_4, zxl_4, zil_4, zmL_5, zmR_5, zaL_5, zaR_5, zleL_5, zleR_5, zltL_5, zltR_5, zeq_5, zxl_5, zil_5, zmL_6, zmR_6, zaL_6, zaR_6, zleL_6, zleR_6, zltL_6, zltR_6, zeq_6, zxl_6, zil_6, zmL_7, zmR_7, zaL_7, zaR_7, zleL_7, zleR_7, zltL_7, zltR_7, zeq_7, zxl_7, zil_7, zmL_8, zmR_8, zaL_8, zaR_8, zleL_8, zleR_8, zltL_8, zltR_8, zeq_8, zxl_8, zil_8, zmL_9, zmR_9, zaL_9, zaR_9, zleL_9, zleR_9, zltL_9, zltR_9, zeq_9, zxl_9, zil_9, zmL_10, zmR_10, zaL_10, zaR_10, zleL_10, zleR_10, zltL_10, zltR_10, zeq_10, zxl_10, zil_10, zmL_14, zmR_14, zaL_14, zaR_14, zleL_14, zleR_14, zltL_14, zltR_14, zeq_14, zxl_14, zil_14, zmL_15, zmR_15, zaL_15, zaR_15, zleL_15, zleR_15, zltL_15, zltR_15, zeq_15, zxl_15, zil_15, zmL_16, zmR_16, zaL_16, zaR_16, zleL_16, zleR_16, zltL_16, zltR_16, zeq_16, zxl_16, zil_16, zmL_20, zmR_20, zaL_20, zaR_20, zleL_20, zleR_20, zltL_20, zltR_20, zeq_20, zxl_20, zil_20, zmL_22, zmR_22, zaL_22, zaR_22, zleL_22, zleR_22, zltL_22, zltR_22, zeq_22, zxl_22, zil_22, zmL_23, zmR_23, zaL_23, zaR_23, zleL_23, zleR_23, zltL_23, zltR_23, zeq_23, zxl_23, zil_23, zmL_24, zmR_24, zaL_24, zaR_24, zleL_24, zleR_24, zltL_24, zltR_24, zeq_24, zxl_24, zil_24, zmL_25, zmR_25, zaL_25, zaR_25, zleL_25, zleR_25, zltL_25, zltR_25, zeq_25, zxl_25, zil_25, zmL_26, zmR_26, zaL_26, zaR_26, zleL_26, zleR_26, zltL_26, zltR_26, zeq_26, zxl_26, zil_26, zmL_32, zmR_32, zaL_32, zaR_32, zleL_32, zleR_32, zltL_32, zltR_32, zeq_32, zxl_32, zil_32, zmL_40, zmR_40, zaL_40, zaR_40, zleL_40, zleR_40, zltL_40, zltR_40, zeq_40, zxl_40, zil_40, zmL_49, zmR_49, zaL_49, zaR_49, zleL_49, zleR_49, zltL_49, zltR_49, zeq_49, zxl_49, zil_49, zmL_58, zmR_58, zaL_58, zaR_58, zleL_58, zleR_58, zltL_58, zltR_58, zeq_58, zxl_58, zil_58, zmL_99, zmR_99, zaL_99, zaR_99, zleL_99, zleR_99, zltL_99, zltR_99, zeq_99, zxl_99, zil_99, zmL_100, zmR_100, zaL_100, zaR_100, zleL_100, zleR_100, zltL_100, zltR_100, zeq_100, zxl_100, zil_100, zmL_107, zmR_107, zaL_107, zaR_107, zleL_107, zleR_107, zltL_107, zltR_107, zeq_107, zxl_107, zil_107, zmL_126, zmR_126, zaL_126, zaR_126, zleL_126, zleR_126, zltL_126, zltR_126, zeq_126, zxl_126, zil_126, zmL_1000, zmR_1000, zaL_1000, zaR_1000, zleL_1000, zleR_1000, zltL_1000, zltR_1000, zeq_1000, zxl_1000, zil_1000, zmL_1605, zmR_1605, zaL_1605, zaR_1605, zleL_1605, zleR_1605, zltL_1605, zltR_1605, zeq_1605, zxl_1605, zil_1605]
        rw [f5, zbind_s]
        have cs : w = 0 ∨ w = 1 ∨ w = 2 := by omega
        rcases cs with rfl | rfl | rfl <;> rfl
      · have hw2 : w < 0 ∨ 2 < w := hwx
        have e1 : g_X11_ages h 0 x y w = some (-1, h) := by
          unfold g_X11_ages
          rw [if_neg hx1, if_neg hx2, if_neg hy1, if_neg hy2]
          by_cases c : w < 0
          · rw [if_pos c]
          · rw [if_neg c, if_neg (Int32.not_le.mpr (hw2.resolve_left c))]
        rw [e1]
        refine okt_no (fun k hk => ?_)
        show g_X12_ages h 139 x y w = _
        unfold g_X12_ages
        rw [zlet_e, ← hk, wx, wy, zwith_f hw2]; rfl
end P8
