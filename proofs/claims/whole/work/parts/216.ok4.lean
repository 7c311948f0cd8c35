/-! judged, quiets -/
section O5
variable {R : zRp} {S S' S0 : zSt} {pc pc' : Nat} {pS pS' : Nat → zSt} {Z : zZ} {h h' h1 h2 : zH} {t : Nat}
def ijs (R : zRp) (Y : zY) (i : Nat) (s : zSt × Option Nat × Option Nat) : zSt × Option Nat × Option Nat :=
  ((igo R s.1 (Y.2.1 i) (Y.2.2.1 i) (Y.2.2.2 i)).1, (match s.2.1 with
    | some b => some b
    | none => if (igo R s.1 (Y.2.1 i) (Y.2.2.1 i) (Y.2.2.2 i)).2 then none else some i), (match s.2.2 with
    | some b => some b
    | none => if ig R (igo R s.1 (Y.2.1 i) (Y.2.2.1 i) (Y.2.2.2 i)).1 = ig R s.1 then none else some i))
theorem zo_inj {a b : Option Nat} (ha : ∀ x, a = some x → x < 100) (hb : ∀ x, b = some x → x < 100) : (zo a = zo b) = (a = b) := by
  cases b with
  | none =>
    cases a with
    | none => simp
    | some x =>
      have := ha x rfl
      rw [zo_some, zo_none, znI_neg (by omega)]; simp
  | some y =>
    have := hb y rfl
    rw [zo_some, zo_eq ha this]
theorem ijs_lt {Y : zY} {n : Nat} (hY : n ≤ 40) : ∀ i s, i < n → ((∀ x, s.2.1 = some x → x < i) ∧ ∀ x, s.2.2 = some x → x < i) → ((∀ x, (ijs R Y i s).2.1 = some x → x < i + 1) ∧ ∀ x, (ijs R Y i s).2.2 = some x → x < i + 1) := by
  intro i s hi ⟨k1, k2⟩
  obtain ⟨S1, b1, t1⟩ := s
  refine ⟨fun x hx => ?_, fun x hx => ?_⟩
  · unfold ijs at hx
    cases b1 with
    | some b => have := k1 b rfl; cases hx; omega
    | none =>
      simp only at hx
      split at hx
      · cases hx
      · cases hx; omega
  · unfold ijs at hx
    cases t1 with
    | some b => have := k2 b rfl; cases hx; omega
    | none =>
      simp only at hx
      split at hx
      · cases hx
      · cases hx; omega
theorem e_judged39 {h0 : zH} (I : RelI R S0 pc pS Z) (C : RelC R S0 pc pS Z h0) (w : Int32) (S : zSt) (H : CL R S h 33) (w0 : zsm A33 h0 h) : ∃ h' m, g_X11_judged_39 0 zfu w (-1) (-1) (zo (ig R S)) 0 h = g_X11_judged_39 0 (m + 1) w (zo (zfold (ijs R (zy Z)) 0 (zy Z).1 (S, none, none)).2.1) (zo (zfold (ijs R (zy Z)) 0 (zy Z).1 (S, none, none)).2.2) (zo (ig R (zfold (ijs R (zy Z)) 0 (zy Z).1 (S, none, none)).1)) (nI (zy Z).1) h' ∧ CL R (zfold (ijs R (zy Z)) 0 (zy Z).1 (S, none, none)).1 h' 33 ∧ zsm A33 h0 h' := by
  have hn := I.1.1
  have hY := I.2.2.2.2.1
  obtain ⟨h', m, e, ⟨H', w', -⟩⟩ := zloopH (L := fun n i (s : zSt × Option Nat × Option Nat) h => g_X11_judged_39 0 n w (zo s.2.1) (zo s.2.2) (zo (ig R s.1)) i h) (N := (zy Z).1) (f := ijs R (zy Z)) (fun i s h1 => CL R s.1 h1 33 ∧ zsm A33 h0 h1 ∧ (∀ x, s.2.1 = some x → x < i) ∧ ∀ x, s.2.2 = some x → x < i)
    (by
      intro n i s h1 hi ⟨H1, w1, hlt⟩
      have hlt' := ijs_lt (R := R) (Y := zy Z) hY.1 i s hi hlt
      obtain ⟨S1, b1, t1⟩ := s
      have H1 : CL R S1 h1 33 := H1
      show ∃ h', g_X11_judged_39 0 (n + 1) w (zo b1) (zo t1) (zo (ig R S1)) (nI i) h1 = g_X11_judged_39 0 n w (zo (ijs R (zy Z) i (S1, b1, t1)).2.1) (zo (ijs R (zy Z) i (S1, b1, t1)).2.2) (zo (ig R (ijs R (zy Z) i (S1, b1, t1)).1)) (nI (i + 1)) h' ∧ _
      have C1 := C.tr w1
      have y0 : h1.1 38 1 = nI (zy Z).1 := C1.1.2.2.2.2.2.1.1
      have y1 := C1.1.2.2.2.2.2.1.2 i hi
      have hy2 := hY.2 i hi
      have h40 := hY.1
      obtain ⟨h2, e2, H2, w2⟩ := e_X7_perform H1 hy2.1 hy2.2.1 hy2.2.2
      refine ⟨h2, ?_, H2, w1.tr (w2.mono (fun a k z => AT33 z)), hlt'⟩
      rw [g_X11_judged_39]
      simp (disch := omega) only [y0, zr_0_0, zr_0_1, zr_0_2, zr_0_3, zr_0_4, zr_0_5, zr_0_6, zr_0_7, zr_0_8, zr_1_0, zr_3_0, zr_3_1, zr_3_2, zr_3_3, zr_3_4, zr_3_5, zr_3_6, zr_10_0, zr_10_1, zr_13_0, zr_13_1, zr_13_4, zr_14_0, zr_14_1, zr_14_2, zr_14_3, zr_14_4, zr_14_5, zr_14_6, zr_21_0, zr_21_1, zr_24_0, zr_24_1, zr_24_2, zr_26_0, zr_26_1, zr_26_4, zr_27_0, zr_37_0, zr_37_1, zr_38_0, zr_44_0, zr_44_1, zr_44_2, zr_44_3, zr_45_0, zr_45_1, zr_52_0, zr_52_1, zr_59_0, zr_59_1, zr_66_0, zr_66_1, zr_73_0, zr_74_0, zr_74_1, zr_74_2, zr_74_3, zr_74_4, zr_74_5, zr_74_6, zr_74_7, zr_74_8, zr_74_9, zr_74_10, zr_74_11, zr_74_12, zr_74_13, zr_74_14, zr_74_15, zr_139_2, zr_139_10, zr_139_11, zr_139_12, zr_139_13, zr_139_14, zr_139_15, zr_139_16, zr_139_17, zr_139_18, zr_139_19, zr_139_20, zr_139_23, zr_139_24, zr_139_25, zr_139_26, zr_139_27, zr_139_28, zr_139_29, zr_139_30, zr_139_31, zr_139_32, zr_139_33, zr_139_34, zr_139_37, zr_139_38, zr_139_39, zr_139_40, zr_139_41, zr_139_42, zr_139_43, zr_139_44, zr_139_45, zr_139_46, zr_139_47, zr_139_48, zr_139_50, zin_t, zx_nI, nI_add, nI_mul, znI_le, znI_lt, znI_eq, znI_neg, zgu_t, zgu_f, zbind_s, zlet_e, zb_eq0, zb_eq1, zb_t, zb_f, zleL_0, zleR_0, zltL_0, zltR_0, zeq_0, zxl_0, zil_0, zmL_1, zmR_1, zaL_1, zaR_1, zleL_1, zleR_1, zltL_1, zltR_1, zeq_1, zxl_1, zil_1, zmL_2, zmR_2, zaL_2, zaR_2, zleL_2, zleR_2, zltL_2, zltR_2, zeq_2, zxl_2, zil_2, zmL_3, zmR_3, zaL_3, zaR_3, zleL_3, zleR_3, zltL_3, zltR_3, zeq_3, zxl_3, zil_3, zmL_4, zmR_4, zaL_4, zaR_4, zleL_4, zleR_4, zltL_4, zltR_4, zeq_4, zxl_4, zil_4, zmL_5, zmR_5, zaL_5, zaR_5, zleL_5, zleR_5, zltL_5, zltR_5, zeq_5, zxl_5, zil_5, zmL_6, zmR_6, zaL_6, zaR_6, zleL_6, zleR_6, zltL_6, zltR_6, zeq_6, zxl_6, zil_6, zmL_7, zmR_7, zaL_7, zaR_7, zleL_7, zleR_7, zltL_7, zltR_7, zeq_7, zxl_7, zil_7, zmL_8, zmR_8, zaL_8, zaR_8, zleL_8, zleR_8, zltL_8, zltR_8, zeq_8, zxl_8, zil_8, zmL_9, zmR_9, zaL_9, zaR_9, zleL_9, zleR_9, zltL_9, zltR_9, zeq_9, zxl_9, zil_9, zmL_10, zmR_10, zaL_10, zaR_10, zleL_10, zleR_10, zltL_10, zltR_10, zeq_10, zxl_10, zil_10, zmL_14, zmR_14, zaL_14, zaR_14, zleL_14, zleR_14, zltL_14, zltR_14, zeq_14, zxl_14, zil_14, zmL_15, zmR_15, zaL_15, zaR_15, zleL_15, zleR_15, zltL_15, zltR_15, zeq_15, zxl_15, zil_15, zmL_16, zmR_16, zaL_16, zaR_16, zleL_16, zleR_16, zltL_16, zltR_16, zeq_16, zxl_16, zil_16, zmL_20, zmR_20, zaL_20, zaR_20, zleL_20, zleR_20, zltL_20, zltR_20, zeq_20, zxl_20, zil_20, zmL_22, zmR_22, zaL_22, zaR_22, zleL_22, zleR_22, zltL_22, zltR_22, zeq_22, zxl_22, zil_22, zmL_23, zmR_23, zaL_23, zaR_23, zleL_23, zleR_23, zltL_23, zltR_23, zeq_23, zxl_23, zil_23, zmL_24, zmR_24, zaL_24, zaR_24, zleL_24, zleR_24, zltL_24, zltR_24, zeq_24, zxl_24, zil_24, zmL_25, zmR_25, zaL_25, zaR_25, zleL_25, zleR_25, zltL_25, zltR_25, zeq_25, zxl_25, zil_25, zmL_26, zmR_26, zaL_26, zaR_26, zleL_26, zleR_26, zltL_26, zltR_26, zeq_26, zxl_26, zil_26, zmL_32, zmR_32, zaL_32, zaR_32, zleL_32, zleR_32, zltL_32, zltR_32, zeq_32, zxl_32, zil_32, zmL_40, zmR_40, zaL_40, zaR_40, zleL_40, zleR_40, zltL_40, zltR_40, zeq_40, zxl_40, zil_40, zmL_49, zmR_49, zaL_49, zaR_49, zleL_49, zleR_49, zltL_49, zltR_49, zeq_49, zxl_49, zil_49, zmL_58, zmR_58, zaL_58, zaR_58, zleL_58, zleR_58, zltL_58, zltR_58, zeq_58, zxl_58, zil_58, zmL_99, zmR_99, zaL_99, zaR_99, zleL_99, zleR_99, zltL_99, zltR_99, zeq_99, zxl_99, zil_99, zmL_100, zmR_100, zaL_100, zaR_100, zleL_100, zleR_100, zltL_100, zltR_100, zeq_100, zxl_100, zil_100, zmL_107, zmR_107, zaL_107, zaR_107, zleL_107, zleR_107, zltL_107, zltR_107, zeq_107, zxl_107, zil_107, zmL_126, zmR_126, zaL_126, zaR_126, zleL_126, zleR_126, zltL_126, zltR_126, zeq_126, zxl_126, zil_126, zmL_1000, zmR_1000, zaL_1000, zaR_1000, zleL_1000, zleR_1000, zltL_1000, zltR_1000, zeq_1000, zxl_1000, zil_1000, zmL_1605, zmR_1605, zaL_1605, zaR_1605, zleL_1605, zleR_1605, zltL_1605, zltR_1605, zeq_1605, zxl_1605, zil_1605]
      rw [if_neg (by omega), y1, e2]
      simp only [zbind_s]
      rw [e_X7_governor H2.1]
      simp only [zbind_s, zb_eq0]
      unfold ijs g_X11_judged_98
      simp only
      have hl1 := hlt.1
      have hl2 := hlt.2
      simp only at hl1 hl2
      have gi : (zo (ig R (igo R S1 ((zy Z).2.1 i) ((zy Z).2.2.1 i) ((zy Z).2.2.2 i)).1) = zo (ig R S1)) = (ig R (igo R S1 ((zy Z).2.1 i) ((zy Z).2.2.1 i) ((zy Z).2.2.2 i)).1 = ig R S1) := zo_inj (fun x hx => by have := (ig_lt hx).1; omega) (fun x hx => by have := (ig_lt hx).1; omega)
      simp only [gi, nI_1]
      cases hr : (igo R S1 ((zy Z).2.1 i) ((zy Z).2.2.1 i) ((zy Z).2.2.2 i)).2
      · cases b1 with
        | none =>
          cases t1 with
          | none =>
            by_cases c : ig R (igo R S1 ((zy Z).2.1 i) ((zy Z).2.2.1 i) ((zy Z).2.2.2 i)).1 = ig R S1
            · simp [c, zo]
            · simp [c, zo]
          | some x =>
            have := hl2 x rfl
            simp [zo, znI_neg (show x < 2147483648 by omega)]
        | some y =>
          have := hl1 y rfl
          cases t1 with
          | none =>
            by_cases c : ig R (igo R S1 ((zy Z).2.1 i) ((zy Z).2.2.1 i) ((zy Z).2.2.2 i)).1 = ig R S1
            · simp [c, zo, znI_neg (show y < 2147483648 by omega)]
            · simp [c, zo, znI_neg (show y < 2147483648 by omega)]
          | some x =>
            have := hl2 x rfl
            simp [zo, znI_neg (show x < 2147483648 by omega), znI_neg (show y < 2147483648 by omega)]
      · cases t1 with
        | none =>
          by_cases c : ig R (igo R S1 ((zy Z).2.1 i) ((zy Z).2.2.1 i) ((zy Z).2.2.2 i)).1 = ig R S1
          · cases b1 <;> simp [c, zo]
          · cases b1 <;> simp [c, zo]
        | some x =>
          have := hl2 x rfl
          cases b1 <;> simp [zo, znI_neg (show x < 2147483648 by omega)])
    (zy Z).1 0 (S, none, none) zfu h (by omega) (by show _ < 4000; have := hY.1; omega) ⟨H, w0, fun x hx => (by cases hx), fun x hx => (by cases hx)⟩
  exact ⟨h', m, e, H', w'⟩
theorem e_judged41 {h0 : zH} (I : RelI R S0 pc pS Z) (M : RelM R S0 pc pS Z h0) (w : Int32) (S : zSt) (H : ML R S h) (sb : SM (rn R) S0 h 172 0) (w0 : zsm AQ h0 h) : ∃ h' m, g_X12_judged_41 139 zfu w (-1) (-1) 0 h = g_X12_judged_41 139 (m + 1) w (zo (zfold (ijs R (zy Z)) 0 (zy Z).1 (S, none, none)).2.1) (zo (zfold (ijs R (zy Z)) 0 (zy Z).1 (S, none, none)).2.2) (nI (zy Z).1) h' ∧ ML R (zfold (ijs R (zy Z)) 0 (zy Z).1 (S, none, none)).1 h' ∧ SM (rn R) S0 h' 172 0 ∧ zsm AQ h0 h' := by
  have hn := I.1.1
  have hY := I.2.2.2.2.1
  obtain ⟨h', m, e, ⟨H', s', w', -⟩⟩ := zloopH (L := fun n i (s : zSt × Option Nat × Option Nat) h => g_X12_judged_41 139 n w (zo s.2.1) (zo s.2.2) i h) (N := (zy Z).1) (f := ijs R (zy Z)) (fun i s h1 => ML R s.1 h1 ∧ SM (rn R) S0 h1 172 0 ∧ zsm AQ h0 h1 ∧ (∀ x, s.2.1 = some x → x < i) ∧ ∀ x, s.2.2 = some x → x < i)
    (by
      intro n i s h1 hi ⟨H1, sb1, w1, hlt⟩
      have hlt' := ijs_lt (R := R) (Y := zy Z) hY.1 i s hi hlt
      obtain ⟨S1, b1, t1⟩ := s
      have H1 : ML R S1 h1 := H1
      show ∃ h', g_X12_judged_41 139 (n + 1) w (zo b1) (zo t1) (nI i) h1 = g_X12_judged_41 139 n w (zo (ijs R (zy Z) i (S1, b1, t1)).2.1) (zo (ijs R (zy Z) i (S1, b1, t1)).2.2) (nI (i + 1)) h' ∧ _
      have Y1 : YM (zy Z) h1 0 := YM.same (A := AQ) M.1.2.2.2.2.1 w1 (fun a k ha hb => by unfold AQ; omega)
      have y0 : h1.1 164 0 = nI (zy Z).1 := Y1.1
      obtain ⟨y1, y2, y3⟩ := Y1.2 i hi
      rw [show 40 * 0 + i = i by omega] at y1 y2 y3
      have hy2 := hY.2 i hi
      have h40 := hY.1
      obtain ⟨h2, e2, H2, w2⟩ := e_X12_goes H1 (show i < 240 by omega) hy2.1 y1 y2 y3
      refine ⟨h2, ?_, H2, sb1.am w2, w1.tr (w2.mono (fun a k z => AMQ z)), hlt'⟩
      rw [g_X12_judged_41]
      simp (disch := omega) only [y0, zr_0_0, zr_0_1, zr_0_2, zr_0_3, zr_0_4, zr_0_5, zr_0_6, zr_0_7, zr_0_8, zr_1_0, zr_3_0, zr_3_1, zr_3_2, zr_3_3, zr_3_4, zr_3_5, zr_3_6, zr_10_0, zr_10_1, zr_13_0, zr_13_1, zr_13_4, zr_14_0, zr_14_1, zr_14_2, zr_14_3, zr_14_4, zr_14_5, zr_14_6, zr_21_0, zr_21_1, zr_24_0, zr_24_1, zr_24_2, zr_26_0, zr_26_1, zr_26_4, zr_27_0, zr_37_0, zr_37_1, zr_38_0, zr_44_0, zr_44_1, zr_44_2, zr_44_3, zr_45_0, zr_45_1, zr_52_0, zr_52_1, zr_59_0, zr_59_1, zr_66_0, zr_66_1, zr_73_0, zr_74_0, zr_74_1, zr_74_2, zr_74_3, zr_74_4, zr_74_5, zr_74_6, zr_74_7, zr_74_8, zr_74_9, zr_74_10, zr_74_11, zr_74_12, zr_74_13, zr_74_14, zr_74_15, zr_139_2, zr_139_10, zr_139_11, zr_139_12, zr_139_13, zr_139_14, zr_139_15, zr_139_16, zr_139_17, zr_139_18, zr_139_19, zr_139_20, zr_139_23, zr_139_24, zr_139_25, zr_139_26, zr_139_27, zr_139_28, zr_139_29, zr_139_30, zr_139_31, zr_139_32, zr_139_33, zr_139_34, zr_139_37, zr_139_38, zr_139_39, zr_139_40, zr_139_41, zr_139_42, zr_139_43, zr_139_44, zr_139_45, zr_139_46, zr_139_47, zr_139_48, zr_139_50, zin_t, zx_nI, nI_add, nI_mul, znI_le, znI_lt, znI_eq, znI_neg, zgu_t, zgu_f, zbind_s, zlet_e, zb_eq0, zb_eq1, zb_t, zb_f, zleL_0, zleR_0, zltL_0, zltR_0, zeq_0, zxl_0, zil_0, zmL_1, zmR_1, zaL_1, zaR_1, zleL_1, zleR_1, zltL_1, zltR_1, zeq_1, zxl_1, zil_1, zmL_2, zmR_2, zaL_2, zaR_2, zleL_2, zleR_2, zltL_2, zltR_2, zeq_2, zxl_2, zil_2, zmL_3, zmR_3, zaL_3, zaR_3, zleL_3, zleR_3, zltL_3, zltR_3, zeq_3, zxl_3, zil_3, zmL_4, zmR_4, zaL_4, zaR_4, zleL_4, zleR_4, zltL_4, zltR_4, zeq_4, zxl_4, zil_4, zmL_5, zmR_5, zaL_5, zaR_5, zleL_5, zleR_5, zltL_5, zltR_5, zeq_5, zxl_5, zil_5, zmL_6, zmR_6, zaL_6, zaR_6, zleL_6, zleR_6, zltL_6, zltR_6, zeq_6, zxl_6, zil_6, zmL_7, zmR_7, zaL_7, zaR_7, zleL_7, zleR_7, zltL_7, zltR_7, zeq_7, zxl_7, zil_7, zmL_8, zmR_8, zaL_8, zaR_8, zleL_8, zleR_8, zltL_8, zltR_8, zeq_8, zxl_8, zil_8, zmL_9, zmR_9, zaL_9, zaR_9, zleL_9, zleR_9, zltL_9, zltR_9, zeq_9, zxl_9, zil_9, zmL_10, zmR_10, zaL_10, zaR_10, zleL_10, zleR_10, zltL_10, zltR_10, zeq_10, zxl_10, zil_10, zmL_14, zmR_14, zaL_14, zaR_14, zleL_14, zleR_14, zltL_14, zltR_14, zeq_14, zxl_14, zil_14, zmL_15, zmR_15, zaL_15, zaR_15, zleL_15, zleR_15, zltL_15, zltR_15, zeq_15, zxl_15, zil_15, zmL_16, zmR_16, zaL_16, zaR_16, zleL_16, zleR_16, zltL_16, zltR_16, zeq_16, zxl_16, zil_16, zmL_20, zmR_20, zaL_20, zaR_20, zleL_20, zleR_20, zltL_20, zltR_20, zeq_20, zxl_20, zil_20, zmL_22, zmR_22, zaL_22, zaR_22, zleL_22, zleR_22, zltL_22, zltR_22, zeq_22, zxl_22, zil_22, zmL_23, zmR_23, zaL_23, zaR_23, zleL_23, zleR_23, zltL_23, zltR_23, zeq_23, zxl_23, zil_23, zmL_24, zmR_24, zaL_24, zaR_24, zleL_24, zleR_24, zltL_24, zltR_24, zeq_24, zxl_24, zil_24, zmL_25, zmR_25, zaL_25, zaR_25, zleL_25, zleR_25, zltL_25, zltR_25, zeq_25, zxl_25, zil_25, zmL_26, zmR_26, zaL_26, zaR_26, zleL_26, zleR_26, zltL_26, zltR_26, zeq_26, zxl_26, zil_26, zmL_32, zmR_32, zaL_32, zaR_32, zleL_32, zleR_32, zltL_32, zltR_32, zeq_32, zxl_32, zil_32, zmL_40, zmR_40, zaL_40, zaR_40, zleL_40, zleR_40, zltL_40, zltR_40, zeq_40, zxl_40, zil_40, zmL_49, zmR_49, zaL_49, zaR_49, zleL_49, zleR_49, zltL_49, zltR_49, zeq_49, zxl_49, zil_49, zmL_58, zmR_58, zaL_58, zaR_58, zleL_58, zleR_58, zltL_58, zltR_58, zeq_58, zxl_58, zil_58, zmL_99, zmR_99, zaL_99, zaR_99, zleL_99, zleR_99, zltL_99, zltR_99, zeq_99, zxl_99, zil_99, zmL_100, zmR_100, zaL_100, zaR_100, zleL_100, zleR_100, zltL_100, zltR_100, zeq_100, zxl_100, zil_100, zmL_107, zmR_107, zaL_107, zaR_107, zleL_107, zleR_107, zltL_107, zltR_107, zeq_107, zxl_107, zil_107, zmL_126, zmR_126, zaL_126, zaR_126, zleL_126, zleR_126, zltL_126, zltR_126, zeq_126, zxl_126, zil_126, zmL_1000, zmR_1000, zaL_1000, zaR_1000, zleL_1000, zleR_1000, zltL_1000, zltR_1000, zeq_1000, zxl_1000, zil_1000, zmL_1605, zmR_1605, zaL_1605, zaR_1605, zleL_1605, zleR_1605, zltL_1605, zltR_1605, zeq_1605, zxl_1605, zil_1605]
      rw [if_neg (by omega), e_X12_gov H1.1 H1.2.2]
      simp only [zbind_s]
      rw [e2]
      simp only [zbind_s, zb_eq0]
      unfold ijs g_X12_judged_74
      rw [e_X12_gov H2.1 H2.2.2]
      simp only [zbind_s]
      have hl1 := hlt.1
      have hl2 := hlt.2
      simp only at hl1 hl2
      have gi : (zo (ig R (igo R S1 ((zy Z).2.1 i) ((zy Z).2.2.1 i) ((zy Z).2.2.2 i)).1) = zo (ig R S1)) = (ig R (igo R S1 ((zy Z).2.1 i) ((zy Z).2.2.1 i) ((zy Z).2.2.2 i)).1 = ig R S1) := zo_inj (fun x hx => by have := (ig_lt hx).1; omega) (fun x hx => by have := (ig_lt hx).1; omega)
      have g1 : (0 ≤ zo b1) = (b1.isSome = true) := zo_ge0 (fun x hx => by have := hl1 x hx; omega)
      have g2 : (0 ≤ zo t1) = (t1.isSome = true) := zo_ge0 (fun x hx => by have := hl2 x hx; omega)
      simp only [gi, nI_1, g1, g2]
      cases hr : (igo R S1 ((zy Z).2.1 i) ((zy Z).2.2.1 i) ((zy Z).2.2.2 i)).2 <;> cases b1 <;> cases t1 <;> by_cases c : ig R (igo R S1 ((zy Z).2.1 i) ((zy Z).2.2.1 i) ((zy Z).2.2.2 i)).1 = ig R S1 <;> simp [c, zo])
    (zy Z).1 0 (S, none, none) zfu h (by omega) (by show _ < 4000; have := hY.1; omega) ⟨H, sb, w0, fun x hx => (by cases hx), fun x hx => (by cases hx)⟩
  exact ⟨h', m, e, H', s', w'⟩
theorem ok_judged (H : Rel h) (x : Int32) : OKw h (g_X11_judged h 0 x) (fun h => g_X12_judged h 139 x) := by
  refine okt H (fun R S pc pS Z I C => ?_)
  have hn := I.1.1
  have h40 := I.2.2.2.2.1.1
  rcases zwith x 2 (by decide) with ⟨w, hw, rfl⟩ | hx
  · obtain ⟨h3, e3, C3, w3⟩ := C.try29 I
    obtain ⟨h4, m, e4, C4, w4⟩ := e_judged39 I C (nI w) _ C3 w3
    have e5 : g_X11_judged h 0 (nI w) = g_X11_judged_39 0 zfu (nI w) (-1) (-1) (zo (ig R (ifr (rn R) (zg Z)))) 0 h3 := by
      unfold g_X11_judged
      rw [if_neg (nI_pos (by omega)), if_pos (by rw [zleR_2 (by omega)]; exact hw)]
      simp only [zr_0_0, zr_0_1, zr_0_2, zr_0_3, zr_0_4, zr_0_5, zr_0_6, zr_0_7, zr_0_8, zr_1_0, zr_3_0, zr_3_1, zr_3_2, zr_3_3, zr_3_4, zr_3_5, zr_3_6, zr_10_0, zr_10_1, zr_13_0, zr_13_1, zr_13_4, zr_14_0, zr_14_1, zr_14_2, zr_14_3, zr_14_4, zr_14_5, zr_14_6, zr_21_0, zr_21_1, zr_24_0, zr_24_1, zr_24_2, zr_26_0, zr_26_1, zr_26_4, zr_27_0, zr_37_0, zr_37_1, zr_38_0, zr_44_0, zr_44_1, zr_44_2, zr_44_3, zr_45_0, zr_45_1, zr_52_0, zr_52_1, zr_59_0, zr_59_1, zr_66_0, zr_66_1, zr_73_0, zr_74_0, zr_74_1, zr_74_2, zr_74_3, zr_74_4, zr_74_5, zr_74_6, zr_74_7, zr_74_8, zr_74_9, zr_74_10, zr_74_11, zr_74_12, zr_74_13, zr_74_14, zr_74_15, zr_139_2, zr_139_10, zr_139_11, zr_139_12, zr_139_13, zr_139_14, zr_139_15, zr_139_16, zr_139_17, zr_139_18, zr_139_19, zr_139_20, zr_139_23, zr_139_24, zr_139_25, zr_139_26, zr_139_27, zr_139_28, zr_139_29, zr_139_30, zr_139_31, zr_139_32, zr_139_33, zr_139_34, zr_139_37, zr_139_38, zr_139_39, zr_139_40, zr_139_41, zr_139_42, zr_139_43, zr_139_44, zr_139_45, zr_139_46, zr_139_47, zr_139_48, zr_139_50]
      rw [e3, zbind_s, e_X7_governor C3.1, zbind_s]
    rw [e5, e4, g_X11_judged_39]
    have y0 : h4.1 38 1 = nI (zy Z).1 := (C.tr w4).1.2.2.2.2.2.1.1
    simp only [zr_0_0, zr_0_1, zr_0_2, zr_0_3, zr_0_4, zr_0_5, zr_0_6, zr_0_7, zr_0_8, zr_1_0, zr_3_0, zr_3_1, zr_3_2, zr_3_3, zr_3_4, zr_3_5, zr_3_6, zr_10_0, zr_10_1, zr_13_0, zr_13_1, zr_13_4, zr_14_0, zr_14_1, zr_14_2, zr_14_3, zr_14_4, zr_14_5, zr_14_6, zr_21_0, zr_21_1, zr_24_0, zr_24_1, zr_24_2, zr_26_0, zr_26_1, zr_26_4, zr_27_0, zr_37_0, zr_37_1, zr_38_0, zr_44_0, zr_44_1, zr_44_2, zr_44_3, zr_45_0, zr_45_1, zr_52_0, zr_52_1, zr_59_0, zr_59_1, zr_66_0, zr_66_1, zr_73_0, zr_74_0, zr_74_1, zr_74_2, zr_74_3, zr_74_4, zr_74_5, zr_74_6, zr_74_7, zr_74_8, zr_74_9, zr_74_10, zr_74_11, zr_74_12, zr_74_13, zr_74_14, zr_74_15, zr_139_2, zr_139_10, zr_139_11, zr_139_12, zr_139_13, zr_139_14, zr_139_15, zr_139_16, zr_139_17, zr_139_18, zr_139_19, zr_139_20, zr_139_23, zr_139_24, zr_139_25, zr_139_26, zr_139_27, zr_139_28, zr_139_29, zr_139_30, zr_139_31, zr_139_32, zr_139_33, zr_139_34, zr_139_37, zr_139_38, zr_139_39, zr_139_40, zr_139_41, zr_139_42, zr_139_43, zr_139_44, zr_139_45, zr_139_46, zr_139_47, zr_139_48, zr_139_50]
    rw [y0, if_pos (by rw [znI_le (by omega) (by omega)]; exact Nat.le_refl _)]
    simp (disch := omega) only [zin_t, zx_nI, nI_add, nI_mul, znI_le, znI_lt, znI_eq, znI_neg, zgu_t, zgu_f, zbind_s, zlet_e, zb_eq0, zb_eq1, zb_t, zb_f, zleL_0, zleR_0, zltL_0, zltR_0, zeq_0, zxl_0, zil_0, zmL_1, zmR_1, zaL_1, zaR_1, zleL_1, zleR_1, zltL_1, zltR_1, zeq_1, zxl_1, zil_1, zmL_2, zmR_2, zaL_2, zaR_2, zleL_2, zleR_2, zltL_2, zltR_2, zeq_2, zxl_2, zil_2, zmL_3, zmR_3, zaL_3, zaR_3, zleL_3, zleR_3, zltL_3, zltR_3, zeq_3, zxl_3, zil_3, zmL_4, zmR_4, zaL_4, zaR_4, zleL_4, zleR_4, zltL_4, zltR_4, zeq_4, zxl_4, zil_4, zmL_5, zmR_5, zaL_5, zaR_5, zleL_5, zleR_5, zltL_5, zltR_5, zeq_5, zxl_5, zil_5, zmL_6, zmR_6, zaL_6, zaR_6, zleL_6, zleR_6, zltL_6, zltR_6, zeq_6, zxl_6, zil_6, zmL_7, zmR_7, zaL_7, zaR_7, zleL_7, zleR_7, zltL_7, zltR_7, zeq_7, zxl_7, zil_7, zmL_8, zmR_8, zaL_8, zaR_8, zleL_8, zleR_8, zltL_8, zltR_8, zeq_8, zxl_8, zil_8, zmL_9, zmR_9, zaL_9, zaR_9, zleL_9, zleR_9, zltL_9, zltR_9, zeq_9, zxl_9, zil_9, zmL_10, zmR_10, zaL_10, zaR_10, zleL_10, zleR_10, zltL_10, zltR_10, zeq_10, zxl_10, zil_10, zmL_14, zmR_14, zaL_14, zaR_14, zleL_14, zleR_14, zltL_14, zltR_14, zeq_14, zxl_14, zil_14, zmL_15, zmR_15, zaL_15, zaR_15, zleL_15, zleR_15, zltL_15, zltR_15, zeq_15, zxl_15, zil_15, zmL_16, zmR_16, zaL_16, zaR_16, zleL_16, zleR_16, zltL_16, zltR_16, zeq_16, zxl_16, zil_16, zmL_20, zmR_20, zaL_20, zaR_20, zleL_20, zleR_20, zltL_20, zltR_20, zeq_20, zxl_20, zil_20, zmL_22, zmR_22, zaL_22, zaR_22, zleL_22, zleR_22, zltL_22, zltR_22, zeq_22, zxl_22, zil_22, zmL_23, zmR_23, zaL_23, zaR_23, zleL_23, zleR_23, zltL_23, zltR_23, zeq_23, zxl_23, zil_23, zmL_24, zmR_24, zaL_24, zaR_24, zleL_24, zleR_24, zltL_24, zltR_24, zeq_24, zxl_24, zil_24, zmL_25, zmR_25, zaL_25, zaR_25, zleL_25, zleR_25, zltL_25, zltR_25, zeq_25, zxl_25, zil_25, zmL_26, zmR_26, zaL_26, zaR_26, zleL_26, zleR_26, zltL_26, zltR_26, zeq_26, zxl_26, zil_26, zmL_32, zmR_32, zaL_32, zaR_32, zleL_32, zleR_32, zltL_32, zltR_32, zeq_32, zxl_32, zil_32, zmL_40, zmR_40, zaL_40, zaR_40, zleL_40, zleR_40, zltL_40, zltR_40, zeq_40, zxl_40, zil_40, zmL_49, zmR_49, zaL_49, zaR_49, zleL_49, zleR_49, zltL_49, zltR_49, zeq_49, zxl_49, zil_49, zmL_58, zmR_58, zaL_58, zaR_58, zleL_58, zleR_58, zltL_58, zltR_58, zeq_58, zxl_58, zil_58, zmL_99, zmR_99, zaL_99, zaR_99, zleL_99, zleR_99, zltL_99, zltR_99, zeq_99, zxl_99, zil_99, zmL_100, zmR_100, zaL_100, zaR_100, zleL_100, zleR_100, zltL_100, zltR_100, zeq_100, zxl_100, zil_100, zmL_107, zmR_107, zaL_107, zaR_107, zleL_107, zleR_107, zltL_107, zltR_107, zeq_107, zxl_107, zil_107, zmL_126, zmR_126, zaL_126, zaR_126, zleL_126, zleR_126, zltL_126, zltR_126, zeq_126, zxl_126, zil_126, zmL_1000, zmR_1000, zaL_1000, zaR_1000, zleL_1000, zleR_1000, zltL_1000, zltR_1000, zeq_1000, zxl_1000, zil_1000, zmL_1605, zmR_1605, zaL_1605, zaR_1605, zleL_1605, zleR_1605, zltL_1605, zltR_1605, zeq_1605, zxl_1605, zil_1605]
    generalize hv : (if w = 2 then zo (ig R (zfold (ijs R (zy Z)) 0 (zy Z).1 (ifr (rn R) (zg Z), none, none)).1) else if w = 0 then zo (zfold (ijs R (zy Z)) 0 (zy Z).1 (ifr (rn R) (zg Z), none, none)).2.1 else zo (zfold (ijs R (zy Z)) 0 (zy Z).1 (ifr (rn R) (zg Z), none, none)).2.2) = v
    refine ⟨v, h4, ?_, w4, fun k hk M => ?_⟩
    · rw [← hv]
      split
      · rfl
      · split <;> rfl
    · obtain ⟨k3, f3, N3, s3, u3⟩ := M.aside I
      have g7 : k3.1 141 0 = nI (rn R) := N3.1.n
      have gg : ∀ j, j < 49 → k3.1 147 j = nI (zg Z j) := fun j hj => by rw [(u3 147 j (by unfold AQ; omega)).1]; exact M.1.2.2.1 j hj
      obtain ⟨k4, f4, s4, u4⟩ := e_X12_fresh hn g7 gg
      have u4' : zsm AQ k3 k4 := u4.mono (fun a k z => by unfold A171 at z; unfold AQ; omega)
      have N4 : ML R (ifr (rn R) (zg Z)) k4 := ⟨⟨I.1, SI.fr I.2.2.2.1, N3.1.2.2.1.same u4 (fun a b ha hb => by unfold A171; omega), s4⟩, N3.2.1.same u4 (fun a k ha hb => by unfold A171; omega), N3.2.2.same u4 (fun k => by unfold A171; omega)⟩
      obtain ⟨k5, m5, f5, N5, s5, u5⟩ := e_judged41 I M (nI w) _ N4 (s3.same u4 (fun k => by unfold A171; omega)) (u3.tr u4')
      obtain ⟨k6, f6, s6, u6⟩ := e_back hn s5
      refine ⟨k6, ?_, u5.tr u6, s6⟩
      show g_X12_judged h4 139 (nI w) = _
      unfold g_X12_judged
      have wx : g_X12_within k (nI w) 0 2 = some true := zwith_t hw (m := 0) (by omega) (by decide)
      rw [zlet_e, ← hk, wx]
      simp only [zbind_s, zb_eq0, Bool.true_eq_false, if_false, zr_0_0, zr_0_1, zr_0_2, zr_0_3, zr_0_4, zr_0_5, zr_0_6, zr_0_7, zr_0_8, zr_1_0, zr_3_0, zr_3_1, zr_3_2, zr_3_3, zr_3_4, zr_3_5, zr_3_6, zr_10_0, zr_10_1, zr_13_0, zr_13_1, zr_13_4, zr_14_0, zr_14_1, zr_14_2, zr_14_3, zr_14_4, zr_14_5, zr_14_6, zr_21_0, zr_21_1, zr_24_0, zr_24_1, zr_24_2, zr_26_0, zr_26_1, zr_26_4, zr_27_0, zr_37_0, zr_37_1, zr_38_0, zr_44_0, zr_44_1, zr_44_2, zr_44_3, zr_45_0, zr_45_1, zr_52_0, zr_52_1, zr_59_0, zr_59_1, zr_66_0, zr_66_1, zr_73_0, zr_74_0, zr_74_1, zr_74_2, zr_74_3, zr_74_4, zr_74_5, zr_74_6, zr_74_7, zr_74_8, zr_74_9, zr_74_10, zr_74_11, zr_74_12, zr_74_13, zr_74_14, zr_74_15, zr_139_2, zr_139_10, zr_139_11, zr_139_12, zr_139_13, zr_139_14, zr_139_15, zr_139_16, zr_139_17, zr_139_18, zr_139_19, zr_139_20, zr_139_23, zr_139_24, zr_139_25, zr_139_26, zr_139_27, zr_139_28, zr_139_29, zr_139_30, zr_139_31, zr_139_32, zr_139_33, zr_139_34, zr_139_37, zr_139_38, zr_139_39, zr_139_40, zr_139_41, zr_139_42, zr_139_43, zr_139_44, zr_139_45, zr_139_46, zr_139_47, zr_139_48, zr_139_50]
      rw [f3, zbind_s, f4, zbind_s, f5, g_X12_judged_41]
      have y0 : k5.1 164 0 = nI (zy Z).1 := (YM.same (A := AQ) M.1.2.2.2.2.1 u5 (fun a k ha hb => by unfold AQ; omega)).1
      simp (disch := omega) only [y0, zr_0_0, zr_0_1, zr_0_2, zr_0_3, zr_0_4, zr_0_5, zr_0_6, zr_0_7, zr_0_8, zr_1_0, zr_3_0, zr_3_1, zr_3_2, zr_3_3, zr_3_4, zr_3_5, zr_3_6, zr_10_0, zr_10_1, zr_13_0, zr_13_1, zr_13_4, zr_14_0, zr_14_1, zr_14_2, zr_14_3, zr_14_4, zr_14_5, zr_14_6, zr_21_0, zr_21_1, zr_24_0, zr_24_1, zr_24_2, zr_26_0, zr_26_1, zr_26_4, zr_27_0, zr_37_0, zr_37_1, zr_38_0, zr_44_0, zr_44_1, zr_44_2, zr_44_3, zr_45_0, zr_45_1, zr_52_0, zr_52_1, zr_59_0, zr_59_1, zr_66_0, zr_66_1, zr_73_0, zr_74_0, zr_74_1, zr_74_2, zr_74_3, zr_74_4, zr_74_5, zr_74_6, zr_74_7, zr_74_8, zr_74_9, zr_74_10, zr_74_11, zr_74_12, zr_74_13, zr_74_14, zr_74_15, zr_139_2, zr_139_10, zr_139_11, zr_139_12, zr_139_13, zr_139_14, zr_139_15, zr_139_16, zr_139_17, zr_139_18, zr_139_19, zr_139_20, zr_139_23, zr_139_24, zr_139_25, zr_139_26, zr_139_27, zr_139_28, zr_139_29, zr_139_30, zr_139_31, zr_139_32, zr_139_33, zr_139_34, zr_139_37, zr_139_38, zr_139_39, zr_139_40, zr_139_41, zr_139_42, zr_139_43, zr_139_44, zr_139_45, zr_139_46, zr_139_47, zr_139_48, zr_139_50, zin_t, zx_nI, nI_add, nI_mul, znI_le, znI_lt, znI_eq, znI_neg, zgu_t, zgu_f, zbind_s, zlet_e, zb_eq0, zb_eq1, zb_t, zb_f, zleL_0, zleR_0, zltL_0, zltR_0, zeq_0, zxl_0, zil_0, zmL_1, zmR_1, zaL_1, zaR_1, zleL_1, zleR_1, zltL_1, zltR_1, zeq_1, zxl_1, zil_1, zmL_2, zmR_2, zaL_2, zaR_2, zleL_2, zleR_2, zltL_2, zltR_2, zeq_2, zxl_2, zil_2, zmL_3, zmR_3, zaL_3, zaR_3, zleL_3, zleR_3, zltL_3, zltR_3, zeq_3, zxl_3, zil_3, zmL_4, zmR_4, zaL_4, zaR_4, zleL_4, zleR_4, zltL_4, zltR_4, zeq_4, zxl_4, zil_4, zmL_5, zmR_5, zaL_5, zaR_5, zleL_5, zleR_5, zltL_5, zltR_5, zeq_5, zxl_5, zil_5, zmL_6, zmR_6, zaL_6, zaR_6, zleL_6, zleR_6, zltL_6, zltR_6, zeq_6, zxl_6, zil_6, zmL_7, zmR_7, zaL_7, zaR_7, zleL_7, zleR_7, zltL_7, zltR_7, zeq_7, zxl_7, zil_7, zmL_8, zmR_8, zaL_8, zaR_8, zleL_8, zleR_8, zltL_8, zltR_8, zeq_8, zxl_8, zil_8, zmL_9, zmR_9, zaL_9, zaR_9, zleL_9, zleR_9, zltL_9, zltR_9, zeq_9, zxl_9, zil_9, zmL_10, zmR_10, zaL_10, zaR_10, zleL_10, zleR_10, zltL_10, zltR_10, zeq_10, zxl_10, zil_10, zmL_14, zmR_14, zaL_14, zaR_14, zleL_14, zleR_14, zltL_14, zltR_14, zeq_14, zxl_14, zil_14, zmL_15, zmR_15, zaL_15, zaR_15, zleL_15, zleR_15, zltL_15, zltR_15, zeq_15, zxl_15, zil_15, zmL_16, zmR_16, zaL_16, zaR_16, zleL_16, zleR_16, zltL_16, zltR_16, zeq_16, zxl_16, zil_16, zmL_20, zmR_20, zaL_20, zaR_20, zleL_20, zleR_20, zltL_20, zltR_20, zeq_20, zxl_20, zil_20, zmL_22, zmR_22, zaL_22, zaR_22, zleL_22, zleR_22, zltL_22, zltR_22, zeq_22, zxl_22, zil_22, zmL_23, zmR_23, zaL_23, zaR_23, zleL_23, zleR_23, zltL_23, zltR_23, zeq_23, zxl_23, zil_23, zmL_24, zmR_24, zaL_24, zaR_24, zleL_24, zleR_24, zltL_24, zltR_24, zeq_24, zxl_24, zil_24, zmL_25, zmR_25, zaL_25, zaR_25, zleL_25, zleR_25, zltL_25, zltR_25, zeq_25, zxl_25, zil_25, zmL_26, zmR_26, zaL_26, zaR_26, zleL_26, zleR_26, zltL_26, zltR_26, zeq_26, zxl_26, zil_26, zmL_32, zmR_32, zaL_32, zaR_32, zleL_32, zleR_32, zltL_32, zltR_32, zeq_32, zxl_32, zil_32, zmL_40, zmR_40, zaL_40, zaR_40, zleL_40, zleR_40, zltL_40, zltR_40, zeq_40, zxl_40, zil_40, zmL_49, zmR_49, zaL_49, zaR_49, zleL_49, zleR_49, zltL_49, zltR_49, zeq_49, zxl_49, zil_49, zmL_58, zmR_58, zaL_58, zaR_58, zleL_58, zleR_58, zltL_58, zltR_58, zeq_58, zxl_58, zil_58, zmL_99, zmR_99, zaL_99, zaR_99, zleL_99, zleR_99, zltL_99, zltR_99, zeq_99, zxl_99, zil_99, zmL_100, zmR_100, zaL_100, zaR_100, zleL_100, zleR_100, zltL_100, zltR_100, zeq_100, zxl_100, zil_100, zmL_107, zmR_107, zaL_107, zaR_107, zleL_107, zleR_107, zltL_107, zltR_107, zeq_107, zxl_107, zil_107, zmL_126, zmR_126, zaL_126, zaR_126, zleL_126, zleR_126, zltL_126, zltR_126, zeq_126, zxl_126, zil_126, zmL_1000, zmR_1000, zaL_1000, zaR_1000, zleL_1000, zleR_1000, zltL_1000, zltR_1000, zeq_1000, zxl_1000, zil_1000, zmL_1605, zmR_1605, zaL_1605, zaR_1605, zleL_1605, zleR_1605, zltL_1605, zltR_1605, zeq_1605, zxl_1605, zil_1605]
      rw [if_pos (Nat.le_refl _), e_X12_gov N5.1 N5.2.2, zbind_s, f6, zbind_s, ← hv]
      have cs : w = 0 ∨ w = 1 ∨ w = 2 := by omega
      rcases cs with rfl | rfl | rfl <;> rfl
  · have e1 : g_X11_judged h 0 x = some (-2, h) := by
      unfold g_X11_judged
      by_cases c : x < 0
      · rw [if_pos c]
      · rw [if_neg c, if_neg (show ¬ x ≤ 2 from Int32.not_le.mpr (hx.resolve_left c))]
    rw [e1]
    refine okt_no (fun k hk => ?_)
    show g_X12_judged h 139 x = _
    unfold g_X12_judged
    rw [zlet_e, ← hk, zwith_f (b := 2) hx]; rfl
end O5
