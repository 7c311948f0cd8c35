/-! bring, bears -/
section O8
variable {R : zRp} {S S' S0 : zSt} {pc pc' : Nat} {pS pS' : Nat → zSt} {Z : zZ} {h h' h1 h2 : zH} {t : Nat}
/-- votes against q that bring p before him -/
def ind (R : zRp) (S : zSt) (p q : Nat) : Nat := (ic R S p + (if iw R p q then 0 else 1)) - ic R S q
theorem zneed : ∀ a, a < 8 → ∀ b, b < 8 → ∀ w : Bool, (if 0 < -(nI b - nI a - (if w then 0 else 1)) then -(nI b - nI a - (if w then 0 else 1)) else 0) = nI ((a + (if w then 0 else 1)) - b) := by decide +kernel
def ibn (R : zRp) (S : zSt) (p : Nat) (x2 : Int32) (i : Nat) (s : Option Int32) : Option Int32 := match s with
  | none => none
  | some c => if i2a S p i then (if nI (ind R S p i) ≤ x2 - nI (sv S i) then some (c + nI (ind R S p i)) else none) else some c
theorem e_bring74 (H : MS R S h) (M : M0 h) {p q : Nat} (hp : p < rn R) (hq : q < rn R) (hpq : p ≠ q) {k42 : Int32 → Int32 → Int32 → Int32 → zH → Option (Int32 × zH)} {x2 x3 : Int32} : ∀ d m n g, g = zpi h 176 q (nI m) → m + d = ind R S p q → d < n → g_X12_bring_74 139 k42 n (nI p) x2 x3 (nI q) (nI m) g = if nI (ind R S p q) ≤ x2 - nI (sv S q) then k42 (nI p) x2 (x3 + nI (ind R S p q)) (nI (q + 1)) (zpi (zpi h 176 q (nI (ind R S p q))) 176 q 0) else some (-1, zpi (zpi h 176 q (nI (ind R S p q))) 176 q 0) := by
  have hn := H.n7
  have b1 := ic_le hn H.2.1 (p := p) (by omega)
  have b2 := ic_le hn H.2.1 (p := q) (by omega)
  have bi : ind R S p q ≤ 8 := by unfold ind; split <;> omega
  intro d
  induction d with
  | zero =>
    intro m n g hg hm hd
    obtain ⟨n, rfl⟩ : ∃ m, n = m + 1 := ⟨n - 1, by omega⟩
    have Hg : MS R S g := by rw [hg]; exact H.m6 (zsm.pi rfl)
    have r1 : g.1 176 p = nI 0 := by rw [hg, zpi_r, if_neg (by omega)]; exact M p (by omega)
    have r2 : g.1 176 q = nI m := by rw [hg, zpi_r, if_pos ⟨rfl, rfl⟩]
    rw [g_X12_bring_74, e_X12_ahead Hg hp hq r1 r2 (by omega) (by omega)]
    have ea : (decide (0 + ic R S p < m + ic R S q) || decide (0 + ic R S p = m + ic R S q) && iw R p q) = true := by
      unfold ind at hm
      cases hw : iw R p q
      · rw [hw] at hm; simp at hm ⊢; omega
      · rw [hw] at hm; simp at hm ⊢; omega
    rw [ea]
    simp (disch := omega) only [zr_0_0, zr_0_1, zr_0_2, zr_0_3, zr_0_4, zr_0_5, zr_0_6, zr_0_7, zr_0_8, zr_1_0, zr_3_0, zr_3_1, zr_3_2, zr_3_3, zr_3_4, zr_3_5, zr_3_6, zr_10_0, zr_10_1, zr_13_0, zr_13_1, zr_13_4, zr_14_0, zr_14_1, zr_14_2, zr_14_3, zr_14_4, zr_14_5, zr_14_6, zr_21_0, zr_21_1, zr_24_0, zr_24_1, zr_24_2, zr_26_0, zr_26_1, zr_26_4, zr_27_0, zr_37_0, zr_37_1, zr_38_0, zr_44_0, zr_44_1, zr_44_2, zr_44_3, zr_45_0, zr_45_1, zr_52_0, zr_52_1, zr_59_0, zr_59_1, zr_66_0, zr_66_1, zr_73_0, zr_74_0, zr_74_1, zr_74_2, zr_74_3, zr_74_4, zr_74_5, zr_74_6, zr_74_7, zr_74_8, zr_74_9, zr_74_10, zr_74_11, zr_74_12, zr_74_13, zr_74_14, zr_74_15, zr_139_2, zr_139_10, zr_139_11, zr_139_12, zr_139_13, zr_139_14, zr_139_15, zr_139_16, zr_139_17, zr_139_18, zr_139_19, zr_139_20, zr_139_23, zr_139_24, zr_139_25, zr_139_26, zr_139_27, zr_139_28, zr_139_29, zr_139_30, zr_139_31, zr_139_32, zr_139_33, zr_139_34, zr_139_37, zr_139_38, zr_139_39, zr_139_40, zr_139_41, zr_139_42, zr_139_43, zr_139_44, zr_139_45, zr_139_46, zr_139_47, zr_139_48, zr_139_50, zin_t, zx_nI, nI_add, nI_mul, znI_le, znI_lt, znI_eq, znI_neg, zgu_t, zgu_f, zbind_s, zlet_e, zb_eq0, zb_eq1, zb_t, zb_f, zleL_0, zleR_0, zltL_0, zltR_0, zeq_0, zxl_0, zil_0, zmL_1, zmR_1, zaL_1, zaR_1, zleL_1, zleR_1, zltL_1, zltR_1, zeq_1, zxl_1, zil_1, zmL_2, zmR_2, zaL_2, zaR_2, zleL_2, zleR_2, zltL_2, zltR_2, zeq_2, zxl_2, zil_2, zmL_3, zmR_3, zaL_3, zaR_3, zleL_3, zleR_3, zltL_3, zltR_3, zeq_3, zxl_3, zil_3, zmL_4, zmR_4, zaL_4, zaR_4, zleL_4, zleR_4, zltL_4, zltR_4, zeq_4, zxl_4, zil_4, zmL_5, zmR_5, zaL_5, zaR_5, zleL_5, zleR_5, zltL_5, zltR_5, zeq_5, zxl_5, zil_5, zmL_6, zmR_6, zaL_6, zaR_6, zleL_6, zleR_6, zltL_6, zltR_6, zeq_6, zxl_6, zil_6, zmL_7, zmR_7, zaL_7, zaR_7, zleL_7, zleR_7, zltL_7, zltR_7, zeq_7, zxl_7, zil_7, zmL_8, zmR_8, zaL_8, zaR_8, zleL_8, zleR_8, zltL_8, zltR_8, zeq_8, zxl_8, zil_8, zmL_9, zmR_9, zaL_9, zaR_9, zleL_9, zleR_9, zltL_9, zltR_9, zeq_9, zxl_9, zil_9, zmL_10, zmR_10, zaL_10, zaR_10, zleL_10, zleR_10, zltL_10, zltR_10, zeq_10, zxl_10, zil_10, zmL_14, zmR_14, zaL_14, zaR_14, zleL_14, zleR_14, zltL_14, zltR_14, zeq_14, zxl_14, zil_14, zmL_15, zmR_15, zaL_15, zaR_15, zleL_15, zleR_15, zltL_15, zltR_15, zeq_15, zxl_15, zil_15, zmL_16, zmR_16, zaL_16, zaR_16, zleL_16, zleR_16, zltL_16, zltR_16, zeq_16, zxl_16, zil_16, zmL_20, zmR_20, zaL_20, zaR_20, zleL_20, zleR_20, zltL_20, zltR_20, zeq_20, zxl_20, zil_20, zmL_22, zmR_22, zaL_22, zaR_22, zleL_22, zleR_22, zltL_22, zltR_22, zeq_22, zxl_22, zil_22, zmL_23, zmR_23, zaL_23, zaR_23, zleL_23, zleR_23, zltL_23, zltR_23, zeq_23, zxl_23, zil_23, zmL_24, zmR_24, zaL_24, zaR_24, zleL_24, zleR_24, zltL_24, zltR_24, zeq_24, zxl_24, zil_24, zmL_25, zmR_25, zaL_25, zaR_25, zleL_25, zleR_25, zltL_25, zltR_25, zeq_25, zxl_25, zil_25, zmL_26, zmR_26, zaL_26, zaR_26, zleL_26, zleR_26, zltL_26, zltR_26, zeq_26, zxl_26, zil_26, zmL_32, zmR_32, zaL_32, zaR_32, zleL_32, zleR_32, zltL_32, zltR_32, zeq_32, zxl_32, zil_32, zmL_40, zmR_40, zaL_40, zaR_40, zleL_40, zleR_40, zltL_40, zltR_40, zeq_40, zxl_40, zil_40, zmL_49, zmR_49, zaL_49, zaR_49, zleL_49, zleR_49, zltL_49, zltR_49, zeq_49, zxl_49, zil_49, zmL_58, zmR_58, zaL_58, zaR_58, zleL_58, zleR_58, zltL_58, zltR_58, zeq_58, zxl_58, zil_58, zmL_99, zmR_99, zaL_99, zaR_99, zleL_99, zleR_99, zltL_99, zltR_99, zeq_99, zxl_99, zil_99, zmL_100, zmR_100, zaL_100, zaR_100, zleL_100, zleR_100, zltL_100, zltR_100, zeq_100, zxl_100, zil_100, zmL_107, zmR_107, zaL_107, zaR_107, zleL_107, zleR_107, zltL_107, zltR_107, zeq_107, zxl_107, zil_107, zmL_126, zmR_126, zaL_126, zaR_126, zleL_126, zleR_126, zltL_126, zltR_126, zeq_126, zxl_126, zil_126, zmL_1000, zmR_1000, zaL_1000, zaR_1000, zleL_1000, zleR_1000, zltL_1000, zltR_1000, zeq_1000, zxl_1000, zil_1000, zmL_1605, zmR_1605, zaL_1605, zaR_1605, zleL_1605, zleR_1605, zltL_1605, zltR_1605, zeq_1605, zxl_1605, zil_1605, Bool.true_eq_false, if_false]
    have hm2 : m = ind R S p q := by omega
    have hv : (zpi g 176 q 0).1 171 (2 + q) = nI (sv S q) := by rw [zpi_r, if_neg (by omega)]; exact Hg.v q hq
    rw [hv, hg, hm2]
  | succ d ih =>
    intro m n g hg hm hd
    obtain ⟨n, rfl⟩ : ∃ m, n = m + 1 := ⟨n - 1, by omega⟩
    have Hg : MS R S g := by rw [hg]; exact H.m6 (zsm.pi rfl)
    have r1 : g.1 176 p = nI 0 := by rw [hg, zpi_r, if_neg (by omega)]; exact M p (by omega)
    have r2 : g.1 176 q = nI m := by rw [hg, zpi_r, if_pos ⟨rfl, rfl⟩]
    rw [g_X12_bring_74, e_X12_ahead Hg hp hq r1 r2 (by omega) (by omega)]
    have ea : (decide (0 + ic R S p < m + ic R S q) || decide (0 + ic R S p = m + ic R S q) && iw R p q) = false := by
      unfold ind at hm
      cases hw : iw R p q
      · rw [hw] at hm; simp at hm ⊢; omega
      · rw [hw] at hm; simp at hm ⊢; omega
    rw [ea]
    simp (disch := omega) only [r2, zr_0_0, zr_0_1, zr_0_2, zr_0_3, zr_0_4, zr_0_5, zr_0_6, zr_0_7, zr_0_8, zr_1_0, zr_3_0, zr_3_1, zr_3_2, zr_3_3, zr_3_4, zr_3_5, zr_3_6, zr_10_0, zr_10_1, zr_13_0, zr_13_1, zr_13_4, zr_14_0, zr_14_1, zr_14_2, zr_14_3, zr_14_4, zr_14_5, zr_14_6, zr_21_0, zr_21_1, zr_24_0, zr_24_1, zr_24_2, zr_26_0, zr_26_1, zr_26_4, zr_27_0, zr_37_0, zr_37_1, zr_38_0, zr_44_0, zr_44_1, zr_44_2, zr_44_3, zr_45_0, zr_45_1, zr_52_0, zr_52_1, zr_59_0, zr_59_1, zr_66_0, zr_66_1, zr_73_0, zr_74_0, zr_74_1, zr_74_2, zr_74_3, zr_74_4, zr_74_5, zr_74_6, zr_74_7, zr_74_8, zr_74_9, zr_74_10, zr_74_11, zr_74_12, zr_74_13, zr_74_14, zr_74_15, zr_139_2, zr_139_10, zr_139_11, zr_139_12, zr_139_13, zr_139_14, zr_139_15, zr_139_16, zr_139_17, zr_139_18, zr_139_19, zr_139_20, zr_139_23, zr_139_24, zr_139_25, zr_139_26, zr_139_27, zr_139_28, zr_139_29, zr_139_30, zr_139_31, zr_139_32, zr_139_33, zr_139_34, zr_139_37, zr_139_38, zr_139_39, zr_139_40, zr_139_41, zr_139_42, zr_139_43, zr_139_44, zr_139_45, zr_139_46, zr_139_47, zr_139_48, zr_139_50, zin_t, zx_nI, nI_add, nI_mul, znI_le, znI_lt, znI_eq, znI_neg, zgu_t, zgu_f, zbind_s, zlet_e, zb_eq0, zb_eq1, zb_t, zb_f, zleL_0, zleR_0, zltL_0, zltR_0, zeq_0, zxl_0, zil_0, zmL_1, zmR_1, zaL_1, zaR_1, zleL_1, zleR_1, zltL_1, zltR_1, zeq_1, zxl_1, zil_1, zmL_2, zmR_2, zaL_2, zaR_2, zleL_2, zleR_2, zltL_2, zltR_2, zeq_2, zxl_2, zil_2, zmL_3, zmR_3, zaL_3, zaR_3, zleL_3, zleR_3, zltL_3, zltR_3, zeq_3, zxl_3, zil_3, zmL_4, zmR_4, zaL_4, zaR_4, zleL_4, zleR_4, zltL_4, zltR_4, zeq_4, zxl_4, zil_4, zmL_5, zmR_5, zaL_5, zaR_5, zleL_5, zleR_5, zltL_5, zltR_5, zeq_5, zxl_5, zil_5, zmL_6, zmR_6, zaL_6, zaR_6, zleL_6, zleR_6, zltL_6, zltR_6, zeq_6, zxl_6, zil_6, zmL_7, zmR_7, zaL_7, zaR_7, zleL_7, zleR_7, zltL_7, zltR_7, zeq_7, zxl_7, zil_7, zmL_8, zmR_8, zaL_8, zaR_8, zleL_8, zleR_8, zltL_8, zltR_8, zeq_8, zxl_8, zil_8, zmL_9, zmR_9, zaL_9, zaR_9, zleL_9, zleR_9, zltL_9, zltR_9, zeq_9, zxl_9, zil_9, zmL_10, zmR_10, zaL_10, zaR_10, zleL_10, zleR_10, zltL_10, zltR_10, zeq_10, zxl_10, zil_10, zmL_14, zmR_14, zaL_14, zaR_14, zleL_14, zleR_14, zltL_14, zltR_14, zeq_14, zxl_14, zil_14, zmL_15, zmR_15, zaL_15, zaR_15, zleL_15, zleR_15, zltL_15, zltR_15, zeq_15, zxl_15, zil_15, zmL_16, zmR_16, zaL_16, zaR_16, zleL_16, zleR_16, zltL_16, zltR_16, zeq_16, zxl_16, zil_16, zmL_20, zmR_20, zaL_20, zaR_20, zleL_20, zleR_20, zltL_20, zltR_20, zeq_20, zxl_20, zil_20, zmL_22, zmR_22, zaL_22, zaR_22, zleL_22, zleR_22, zltL_22, zltR_22, zeq_22, zxl_22, zil_22, zmL_23, zmR_23, zaL_23, zaR_23, zleL_23, zleR_23, zltL_23, zltR_23, zeq_23, zxl_23, zil_23, zmL_24, zmR_24, zaL_24, zaR_24, zleL_24, zleR_24, zltL_24, zltR_24, zeq_24, zxl_24, zil_24, zmL_25, zmR_25, zaL_25, zaR_25, zleL_25, zleR_25, zltL_25, zltR_25, zeq_25, zxl_25, zil_25, zmL_26, zmR_26, zaL_26, zaR_26, zleL_26, zleR_26, zltL_26, zltR_26, zeq_26, zxl_26, zil_26, zmL_32, zmR_32, zaL_32, zaR_32, zleL_32, zleR_32, zltL_32, zltR_32, zeq_32, zxl_32, zil_32, zmL_40, zmR_40, zaL_40, zaR_40, zleL_40, zleR_40, zltL_40, zltR_40, zeq_40, zxl_40, zil_40, zmL_49, zmR_49, zaL_49, zaR_49, zleL_49, zleR_49, zltL_49, zltR_49, zeq_49, zxl_49, zil_49, zmL_58, zmR_58, zaL_58, zaR_58, zleL_58, zleR_58, zltL_58, zltR_58, zeq_58, zxl_58, zil_58, zmL_99, zmR_99, zaL_99, zaR_99, zleL_99, zleR_99, zltL_99, zltR_99, zeq_99, zxl_99, zil_99, zmL_100, zmR_100, zaL_100, zaR_100, zleL_100, zleR_100, zltL_100, zltR_100, zeq_100, zxl_100, zil_100, zmL_107, zmR_107, zaL_107, zaR_107, zleL_107, zleR_107, zltL_107, zltR_107, zeq_107, zxl_107, zil_107, zmL_126, zmR_126, zaL_126, zaR_126, zleL_126, zleR_126, zltL_126, zltR_126, zeq_126, zxl_126, zil_126, zmL_1000, zmR_1000, zaL_1000, zaR_1000, zleL_1000, zleR_1000, zltL_1000, zltR_1000, zeq_1000, zxl_1000, zil_1000, zmL_1605, zmR_1605, zaL_1605, zaR_1605, zleL_1605, zleR_1605, zltL_1605, zltR_1605, zeq_1605, zxl_1605, zil_1605, if_true]
    refine ih (m + 1) n _ ?_ (by omega) (by omega)
    rw [hg]
    apply Prod.ext
    · funext a b
      rw [zpi_r, zpi_r, zpi_r]
      by_cases c : a = 176 ∧ b = q
      · rw [if_pos c, if_pos c]
      · rw [if_neg c, if_neg c, if_neg c]
    · rfl
theorem M0.put0 (M : M0 h) {q : Nat} : ∃ g, g = zpi h 176 q (nI 0) ∧ M0 g := ⟨_, rfl, fun p hp => by
  rw [zpi_r]
  by_cases c : p = q
  · rw [if_pos ⟨rfl, c⟩]; rfl
  · rw [if_neg (by omega)]; exact M p hp⟩
theorem zpi_id {q : Nat} (M : M0 h) (hq : q < 7) : zpi h 176 q (nI 0) = h := by
  apply Prod.ext
  · funext a b
    rw [zpi_r]
    by_cases c : a = 176 ∧ b = q
    · rw [if_pos c, c.1, c.2, M q hq]; rfl
    · rw [if_neg c]
  · rfl
theorem ok_bring (H : Rel h) (x : Int32) : OKq h (g_X11_bring h 0 x) (fun h => g_X12_bring h 139 x) := by
  refine okq2 H (fun R S C k hk M => ?_)
  have hn := C.1.n7
  show ∃ v h2, g_X11_bring h 0 x = some v ∧ g_X12_bring h 139 x = _ ∧ _
  rcases zps_cases (rn R) (by omega) x with ⟨p, hp, rfl, e⟩ | ⟨hx, e⟩
  · cases ha : al S p
    · refine ⟨-1, k, ?_, ?_, zsm.rf, M.2.2⟩
      · unfold g_X11_bring
        simp only [zr_0_0, zr_0_1, zr_0_2, zr_0_3, zr_0_4, zr_0_5, zr_0_6, zr_0_7, zr_0_8, zr_1_0, zr_3_0, zr_3_1, zr_3_2, zr_3_3, zr_3_4, zr_3_5, zr_3_6, zr_10_0, zr_10_1, zr_13_0, zr_13_1, zr_13_4, zr_14_0, zr_14_1, zr_14_2, zr_14_3, zr_14_4, zr_14_5, zr_14_6, zr_21_0, zr_21_1, zr_24_0, zr_24_1, zr_24_2, zr_26_0, zr_26_1, zr_26_4, zr_27_0, zr_37_0, zr_37_1, zr_38_0, zr_44_0, zr_44_1, zr_44_2, zr_44_3, zr_45_0, zr_45_1, zr_52_0, zr_52_1, zr_59_0, zr_59_1, zr_66_0, zr_66_1, zr_73_0, zr_74_0, zr_74_1, zr_74_2, zr_74_3, zr_74_4, zr_74_5, zr_74_6, zr_74_7, zr_74_8, zr_74_9, zr_74_10, zr_74_11, zr_74_12, zr_74_13, zr_74_14, zr_74_15, zr_139_2, zr_139_10, zr_139_11, zr_139_12, zr_139_13, zr_139_14, zr_139_15, zr_139_16, zr_139_17, zr_139_18, zr_139_19, zr_139_20, zr_139_23, zr_139_24, zr_139_25, zr_139_26, zr_139_27, zr_139_28, zr_139_29, zr_139_30, zr_139_31, zr_139_32, zr_139_33, zr_139_34, zr_139_37, zr_139_38, zr_139_39, zr_139_40, zr_139_41, zr_139_42, zr_139_43, zr_139_44, zr_139_45, zr_139_46, zr_139_47, zr_139_48, zr_139_50]
        rw [e_X7_isAlive C.1 (by omega), ha]; rfl
      · unfold g_X12_bring
        rw [zlet_e, ← hk, e_X12_isPersonX M.1, e, e_X12_isAlive M.1 (by omega), ha]; rfl
    · generalize hX : nI (ivl R S) - nI (sv S p) = x2
      have b1 := ic_le hn C.1.2.1 (p := p) (by omega)
      -- the class
      have key := zloopY (L := fun n i (s : Option Int32) _ => g_X7_votesToBring_17 h 40 n (nI p) x2 (s.getD 0) i) (N := rn R) (f := ibn R S p x2) (fun _ s _ => ∃ c, s = some c) (fun s r => s = none ∧ r = some (-1))
        (by
          intro n i s h1 hi ⟨c, hs⟩
          subst hs
          show (∃ h', g_X7_votesToBring_17 h 40 (n + 1) (nI p) x2 c (nI i) = g_X7_votesToBring_17 h 40 n (nI p) x2 ((ibn R S p x2 i (some c)).getD 0) (nI (i + 1)) ∧ _) ∨ (_ ∧ _ ∧ g_X7_votesToBring_17 h 40 (n + 1) (nI p) x2 c (nI i) = _)
          have b2 := ic_le hn C.1.2.1 (p := i) (by omega)
          rw [g_X7_votesToBring_17, e_X7_two C.1 (by omega) (by omega)]
          obtain ⟨v, f1, -, f3⟩ := e_X7_lead C.1 hp hi
          rw [f1]
          simp (disch := omega) only [C.1.e0, C.1.e3, C.1.n, C.1.v, zin_t, zx_nI, nI_add, nI_mul, znI_le, znI_lt, znI_eq, znI_neg, zgu_t, zgu_f, zbind_s, zlet_e, zb_eq0, zb_eq1, zb_t, zb_f, zleL_0, zleR_0, zltL_0, zltR_0, zeq_0, zxl_0, zil_0, zmL_1, zmR_1, zaL_1, zaR_1, zleL_1, zleR_1, zltL_1, zltR_1, zeq_1, zxl_1, zil_1, zmL_2, zmR_2, zaL_2, zaR_2, zleL_2, zleR_2, zltL_2, zltR_2, zeq_2, zxl_2, zil_2, zmL_3, zmR_3, zaL_3, zaR_3, zleL_3, zleR_3, zltL_3, zltR_3, zeq_3, zxl_3, zil_3, zmL_4, zmR_4, zaL_4, zaR_4, zleL_4, zleR_4, zltL_4, zltR_4, zeq_4, zxl_4, zil_4, zmL_5, zmR_5, zaL_5, zaR_5, zleL_5, zleR_5, zltL_5, zltR_5, zeq_5, zxl_5, zil_5, zmL_6, zmR_6, zaL_6, zaR_6, zleL_6, zleR_6, zltL_6, zltR_6, zeq_6, zxl_6, zil_6, zmL_7, zmR_7, zaL_7, zaR_7, zleL_7, zleR_7, zltL_7, zltR_7, zeq_7, zxl_7, zil_7, zmL_8, zmR_8, zaL_8, zaR_8, zleL_8, zleR_8, zltL_8, zltR_8, zeq_8, zxl_8, zil_8, zmL_9, zmR_9, zaL_9, zaR_9, zleL_9, zleR_9, zltL_9, zltR_9, zeq_9, zxl_9, zil_9, zmL_10, zmR_10, zaL_10, zaR_10, zleL_10, zleR_10, zltL_10, zltR_10, zeq_10, zxl_10, zil_10, zmL_14, zmR_14, zaL_14, zaR_14, zleL_14, zleR_14, zltL_14, zltR_14, zeq_14, zxl_14, zil_14, zmL_15, zmR_15, zaL_15, zaR_15, zleL_15, zleR_15, zltL_15, zltR_15, zeq_15, zxl_15, zil_15, zmL_16, zmR_16, zaL_16, zaR_16, zleL_16, zleR_16, zltL_16, zltR_16, zeq_16, zxl_16, zil_16, zmL_20, zmR_20, zaL_20, zaR_20, zleL_20, zleR_20, zltL_20, zltR_20, zeq_20, zxl_20, zil_20, zmL_22, zmR_22, zaL_22, zaR_22, zleL_22, zleR_22, zltL_22, zltR_22, zeq_22, zxl_22, zil_22, zmL_23, zmR_23, zaL_23, zaR_23, zleL_23, zleR_23, zltL_23, zltR_23, zeq_23, zxl_23, zil_23, zmL_24, zmR_24, zaL_24, zaR_24, zleL_24, zleR_24, zltL_24, zltR_24, zeq_24, zxl_24, zil_24, zmL_25, zmR_25, zaL_25, zaR_25, zleL_25, zleR_25, zltL_25, zltR_25, zeq_25, zxl_25, zil_25, zmL_26, zmR_26, zaL_26, zaR_26, zleL_26, zleR_26, zltL_26, zltR_26, zeq_26, zxl_26, zil_26, zmL_32, zmR_32, zaL_32, zaR_32, zleL_32, zleR_32, zltL_32, zltR_32, zeq_32, zxl_32, zil_32, zmL_40, zmR_40, zaL_40, zaR_40, zleL_40, zleR_40, zltL_40, zltR_40, zeq_40, zxl_40, zil_40, zmL_49, zmR_49, zaL_49, zaR_49, zleL_49, zleR_49, zltL_49, zltR_49, zeq_49, zxl_49, zil_49, zmL_58, zmR_58, zaL_58, zaR_58, zleL_58, zleR_58, zltL_58, zltR_58, zeq_58, zxl_58, zil_58, zmL_99, zmR_99, zaL_99, zaR_99, zleL_99, zleR_99, zltL_99, zltR_99, zeq_99, zxl_99, zil_99, zmL_100, zmR_100, zaL_100, zaR_100, zleL_100, zleR_100, zltL_100, zltR_100, zeq_100, zxl_100, zil_100, zmL_107, zmR_107, zaL_107, zaR_107, zleL_107, zleR_107, zltL_107, zltR_107, zeq_107, zxl_107, zil_107, zmL_126, zmR_126, zaL_126, zaR_126, zleL_126, zleR_126, zltL_126, zltR_126, zeq_126, zxl_126, zil_126, zmL_1000, zmR_1000, zaL_1000, zaR_1000, zleL_1000, zleR_1000, zltL_1000, zltR_1000, zeq_1000, zxl_1000, zil_1000, zmL_1605, zmR_1605, zaL_1605, zaR_1605, zleL_1605, zleR_1605, zltL_1605, zltR_1605, zeq_1605, zxl_1605, zil_1605]
          rw [if_neg (by omega)]
          unfold ibn ind
          simp only
          cases hc : i2a S p i
          · simp only [if_true, Bool.false_eq_true, if_false]
            exact Or.inl ⟨h, rfl, c, rfl⟩
          · simp only [if_true, Bool.true_eq_false, if_false]
            rw [f3, zneed _ (by omega) _ (by omega)]
            by_cases c2 : nI (ic R S p + (if iw R p i = true then 0 else 1) - ic R S i) ≤ x2 - nI (sv S i)
            · simp only [if_pos c2]
              exact Or.inl ⟨h, rfl, _, rfl⟩
            · simp only [if_neg c2]
              exact Or.inr ⟨fun j => trivial, trivial, trivial⟩)
        (rn R) 0 (some 0) zfu h (by omega) (by show rn R < 4000; omega) ⟨0, rfl⟩
      have e5 : g_X11_bring h 0 (nI p) = some (match zfold (ibn R S p x2) 0 (rn R) (some 0) with
          | none => -1
          | some c => if c ≤ x2 then c else -1) := by
        unfold g_X11_bring g_X7_votesToBring
        simp (disch := omega) only [C.1.e3, C.1.v, zr_0_0, zr_0_1, zr_0_2, zr_0_3, zr_0_4, zr_0_5, zr_0_6, zr_0_7, zr_0_8, zr_1_0, zr_3_0, zr_3_1, zr_3_2, zr_3_3, zr_3_4, zr_3_5, zr_3_6, zr_10_0, zr_10_1, zr_13_0, zr_13_1, zr_13_4, zr_14_0, zr_14_1, zr_14_2, zr_14_3, zr_14_4, zr_14_5, zr_14_6, zr_21_0, zr_21_1, zr_24_0, zr_24_1, zr_24_2, zr_26_0, zr_26_1, zr_26_4, zr_27_0, zr_37_0, zr_37_1, zr_38_0, zr_44_0, zr_44_1, zr_44_2, zr_44_3, zr_45_0, zr_45_1, zr_52_0, zr_52_1, zr_59_0, zr_59_1, zr_66_0, zr_66_1, zr_73_0, zr_74_0, zr_74_1, zr_74_2, zr_74_3, zr_74_4, zr_74_5, zr_74_6, zr_74_7, zr_74_8, zr_74_9, zr_74_10, zr_74_11, zr_74_12, zr_74_13, zr_74_14, zr_74_15, zr_139_2, zr_139_10, zr_139_11, zr_139_12, zr_139_13, zr_139_14, zr_139_15, zr_139_16, zr_139_17, zr_139_18, zr_139_19, zr_139_20, zr_139_23, zr_139_24, zr_139_25, zr_139_26, zr_139_27, zr_139_28, zr_139_29, zr_139_30, zr_139_31, zr_139_32, zr_139_33, zr_139_34, zr_139_37, zr_139_38, zr_139_39, zr_139_40, zr_139_41, zr_139_42, zr_139_43, zr_139_44, zr_139_45, zr_139_46, zr_139_47, zr_139_48, zr_139_50, zin_t, zx_nI, nI_add, nI_mul, znI_le, znI_lt, znI_eq, znI_neg, zgu_t, zgu_f, zbind_s, zlet_e, zb_eq0, zb_eq1, zb_t, zb_f, zleL_0, zleR_0, zltL_0, zltR_0, zeq_0, zxl_0, zil_0, zmL_1, zmR_1, zaL_1, zaR_1, zleL_1, zleR_1, zltL_1, zltR_1, zeq_1, zxl_1, zil_1, zmL_2, zmR_2, zaL_2, zaR_2, zleL_2, zleR_2, zltL_2, zltR_2, zeq_2, zxl_2, zil_2, zmL_3, zmR_3, zaL_3, zaR_3, zleL_3, zleR_3, zltL_3, zltR_3, zeq_3, zxl_3, zil_3, zmL_4, zmR_4, zaL_4, zaR_4, zleL_4, zleR_4, zltL_4, zltR_4, zeq_4, zxl_4, zil_4, zmL_5, zmR_5, zaL_5, zaR_5, zleL_5, zleR_5, zltL_5, zltR_5, zeq_5, zxl_5, zil_5, zmL_6, zmR_6, zaL_6, zaR_6, zleL_6, zleR_6, zltL_6, zltR_6, zeq_6, zxl_6, zil_6, zmL_7, zmR_7, zaL_7, zaR_7, zleL_7, zleR_7, zltL_7, zltR_7, zeq_7, zxl_7, zil_7, zmL_8, zmR_8, zaL_8, zaR_8, zleL_8, zleR_8, zltL_8, zltR_8, zeq_8, zxl_8, zil_8, zmL_9, zmR_9, zaL_9, zaR_9, zleL_9, zleR_9, zltL_9, zltR_9, zeq_9, zxl_9, zil_9, zmL_10, zmR_10, zaL_10, zaR_10, zleL_10, zleR_10, zltL_10, zltR_10, zeq_10, zxl_10, zil_10, zmL_14, zmR_14, zaL_14, zaR_14, zleL_14, zleR_14, zltL_14, zltR_14, zeq_14, zxl_14, zil_14, zmL_15, zmR_15, zaL_15, zaR_15, zleL_15, zleR_15, zltL_15, zltR_15, zeq_15, zxl_15, zil_15, zmL_16, zmR_16, zaL_16, zaR_16, zleL_16, zleR_16, zltL_16, zltR_16, zeq_16, zxl_16, zil_16, zmL_20, zmR_20, zaL_20, zaR_20, zleL_20, zleR_20, zltL_20, zltR_20, zeq_20, zxl_20, zil_20, zmL_22, zmR_22, zaL_22, zaR_22, zleL_22, zleR_22, zltL_22, zltR_22, zeq_22, zxl_22, zil_22, zmL_23, zmR_23, zaL_23, zaR_23, zleL_23, zleR_23, zltL_23, zltR_23, zeq_23, zxl_23, zil_23, zmL_24, zmR_24, zaL_24, zaR_24, zleL_24, zleR_24, zltL_24, zltR_24, zeq_24, zxl_24, zil_24, zmL_25, zmR_25, zaL_25, zaR_25, zleL_25, zleR_25, zltL_25, zltR_25, zeq_25, zxl_25, zil_25, zmL_26, zmR_26, zaL_26, zaR_26, zleL_26, zleR_26, zltL_26, zltR_26, zeq_26, zxl_26, zil_26, zmL_32, zmR_32, zaL_32, zaR_32, zleL_32, zleR_32, zltL_32, zltR_32, zeq_32, zxl_32, zil_32, zmL_40, zmR_40, zaL_40, zaR_40, zleL_40, zleR_40, zltL_40, zltR_40, zeq_40, zxl_40, zil_40, zmL_49, zmR_49, zaL_49, zaR_49, zleL_49, zleR_49, zltL_49, zltR_49, zeq_49, zxl_49, zil_49, zmL_58, zmR_58, zaL_58, zaR_58, zleL_58, zleR_58, zltL_58, zltR_58, zeq_58, zxl_58, zil_58, zmL_99, zmR_99, zaL_99, zaR_99, zleL_99, zleR_99, zltL_99, zltR_99, zeq_99, zxl_99, zil_99, zmL_100, zmR_100, zaL_100, zaR_100, zleL_100, zleR_100, zltL_100, zltR_100, zeq_100, zxl_100, zil_100, zmL_107, zmR_107, zaL_107, zaR_107, zleL_107, zleR_107, zltL_107, zltR_107, zeq_107, zxl_107, zil_107, zmL_126, zmR_126, zaL_126, zaR_126, zleL_126, zleR_126, zltL_126, zltR_126, zeq_126, zxl_126, zil_126, zmL_1000, zmR_1000, zaL_1000, zaR_1000, zleL_1000, zleR_1000, zltL_1000, zltR_1000, zeq_1000, zxl_1000, zil_1000, zmL_1605, zmR_1605, zaL_1605, zaR_1605, zleL_1605, zleR_1605, zltL_1605, zltR_1605, zeq_1605, zxl_1605, zil_1605]
        rw [e_X7_isAlive C.1 (by omega), ha, e_X7_votesLeft C.1]
        simp (disch := omega) only [zin_t, zx_nI, nI_add, nI_mul, znI_le, znI_lt, znI_eq, znI_neg, zgu_t, zgu_f, zbind_s, zlet_e, zb_eq0, zb_eq1, zb_t, zb_f, zleL_0, zleR_0, zltL_0, zltR_0, zeq_0, zxl_0, zil_0, zmL_1, zmR_1, zaL_1, zaR_1, zleL_1, zleR_1, zltL_1, zltR_1, zeq_1, zxl_1, zil_1, zmL_2, zmR_2, zaL_2, zaR_2, zleL_2, zleR_2, zltL_2, zltR_2, zeq_2, zxl_2, zil_2, zmL_3, zmR_3, zaL_3, zaR_3, zleL_3, zleR_3, zltL_3, zltR_3, zeq_3, zxl_3, zil_3, zmL_4, zmR_4, zaL_4, zaR_4, zleL_4, zleR_4, zltL_4, zltR_4, zeq_4, zxl_4, zil_4, zmL_5, zmR_5, zaL_5, zaR_5, zleL_5, zleR_5, zltL_5, zltR_5, zeq_5, zxl_5, zil_5, zmL_6, zmR_6, zaL_6, zaR_6, zleL_6, zleR_6, zltL_6, zltR_6, zeq_6, zxl_6, zil_6, zmL_7, zmR_7, zaL_7, zaR_7, zleL_7, zleR_7, zltL_7, zltR_7, zeq_7, zxl_7, zil_7, zmL_8, zmR_8, zaL_8, zaR_8, zleL_8, zleR_8, zltL_8, zltR_8, zeq_8, zxl_8, zil_8, zmL_9, zmR_9, zaL_9, zaR_9, zleL_9, zleR_9, zltL_9, zltR_9, zeq_9, zxl_9, zil_9, zmL_10, zmR_10, zaL_10, zaR_10, zleL_10, zleR_10, zltL_10, zltR_10, zeq_10, zxl_10, zil_10, zmL_14, zmR_14, zaL_14, zaR_14, zleL_14, zleR_14, zltL_14, zltR_14, zeq_14, zxl_14, zil_14, zmL_15, zmR_15, zaL_15, zaR_15, zleL_15, zleR_15, zltL_15, zltR_15, zeq_15, zxl_15, zil_15, zmL_16, zmR_16, zaL_16, zaR_16, zleL_16, zleR_16, zltL_16, zltR_16, zeq_16, zxl_16, zil_16, zmL_20, zmR_20, zaL_20, zaR_20, zleL_20, zleR_20, zltL_20, zltR_20, zeq_20, zxl_20, zil_20, zmL_22, zmR_22, zaL_22, zaR_22, zleL_22, zleR_22, zltL_22, zltR_22, zeq_22, zxl_22, zil_22, zmL_23, zmR_23, zaL_23, zaR_23, zleL_23, zleR_23, zltL_23, zltR_23, zeq_23, zxl_23, zil_23, zmL_24, zmR_24, zaL_24, zaR_24, zleL_24, zleR_24, zltL_24, zltR_24, zeq_24, zxl_24, zil_24, zmL_25, zmR_25, zaL_25, zaR_25, zleL_25, zleR_25, zltL_25, zltR_25, zeq_25, zxl_25, zil_25, zmL_26, zmR_26, zaL_26, zaR_26, zleL_26, zleR_26, zltL_26, zltR_26, zeq_26, zxl_26, zil_26, zmL_32, zmR_32, zaL_32, zaR_32, zleL_32, zleR_32, zltL_32, zltR_32, zeq_32, zxl_32, zil_32, zmL_40, zmR_40, zaL_40, zaR_40, zleL_40, zleR_40, zltL_40, zltR_40, zeq_40, zxl_40, zil_40, zmL_49, zmR_49, zaL_49, zaR_49, zleL_49, zleR_49, zltL_49, zltR_49, zeq_49, zxl_49, zil_49, zmL_58, zmR_58, zaL_58, zaR_58, zleL_58, zleR_58, zltL_58, zltR_58, zeq_58, zxl_58, zil_58, zmL_99, zmR_99, zaL_99, zaR_99, zleL_99, zleR_99, zltL_99, zltR_99, zeq_99, zxl_99, zil_99, zmL_100, zmR_100, zaL_100, zaR_100, zleL_100, zleR_100, zltL_100, zltR_100, zeq_100, zxl_100, zil_100, zmL_107, zmR_107, zaL_107, zaR_107, zleL_107, zleR_107, zltL_107, zltR_107, zeq_107, zxl_107, zil_107, zmL_126, zmR_126, zaL_126, zaR_126, zleL_126, zleR_126, zltL_126, zltR_126, zeq_126, zxl_126, zil_126, zmL_1000, zmR_1000, zaL_1000, zaR_1000, zleL_1000, zleR_1000, zltL_1000, zltR_1000, zeq_1000, zxl_1000, zil_1000, zmL_1605, zmR_1605, zaL_1605, zaR_1605, zleL_1605, zleR_1605, zltL_1605, zltR_1605, zeq_1605, zxl_1605, zil_1605, Bool.true_eq_false, if_false, hX]
        rcases key with ⟨h', m, e, c, hc⟩ | ⟨d, e⟩
        · have e : g_X7_votesToBring_17 h 40 zfu (nI p) x2 0 0 = g_X7_votesToBring_17 h 40 (m + 1) (nI p) x2 ((zfold (ibn R S p x2) 0 (rn R) (some 0)).getD 0) (nI (rn R)) := e
          rw [e, hc, g_X7_votesToBring_17]
          simp (disch := omega) only [C.1.e0, C.1.n, zin_t, zx_nI, nI_add, nI_mul, znI_le, znI_lt, znI_eq, znI_neg, zgu_t, zgu_f, zbind_s, zlet_e, zb_eq0, zb_eq1, zb_t, zb_f, zleL_0, zleR_0, zltL_0, zltR_0, zeq_0, zxl_0, zil_0, zmL_1, zmR_1, zaL_1, zaR_1, zleL_1, zleR_1, zltL_1, zltR_1, zeq_1, zxl_1, zil_1, zmL_2, zmR_2, zaL_2, zaR_2, zleL_2, zleR_2, zltL_2, zltR_2, zeq_2, zxl_2, zil_2, zmL_3, zmR_3, zaL_3, zaR_3, zleL_3, zleR_3, zltL_3, zltR_3, zeq_3, zxl_3, zil_3, zmL_4, zmR_4, zaL_4, zaR_4, zleL_4, zleR_4, zltL_4, zltR_4, zeq_4, zxl_4, zil_4, zmL_5, zmR_5, zaL_5, zaR_5, zleL_5, zleR_5, zltL_5, zltR_5, zeq_5, zxl_5, zil_5, zmL_6, zmR_6, zaL_6, zaR_6, zleL_6, zleR_6, zltL_6, zltR_6, zeq_6, zxl_6, zil_6, zmL_7, zmR_7, zaL_7, zaR_7, zleL_7, zleR_7, zltL_7, zltR_7, zeq_7, zxl_7, zil_7, zmL_8, zmR_8, zaL_8, zaR_8, zleL_8, zleR_8, zltL_8, zltR_8, zeq_8, zxl_8, zil_8, zmL_9, zmR_9, zaL_9, zaR_9, zleL_9, zleR_9, zltL_9, zltR_9, zeq_9, zxl_9, zil_9, zmL_10, zmR_10, zaL_10, zaR_10, zleL_10, zleR_10, zltL_10, zltR_10, zeq_10, zxl_10, zil_10, zmL_14, zmR_14, zaL_14, zaR_14, zleL_14, zleR_14, zltL_14, zltR_14, zeq_14, zxl_14, zil_14, zmL_15, zmR_15, zaL_15, zaR_15, zleL_15, zleR_15, zltL_15, zltR_15, zeq_15, zxl_15, zil_15, zmL_16, zmR_16, zaL_16, zaR_16, zleL_16, zleR_16, zltL_16, zltR_16, zeq_16, zxl_16, zil_16, zmL_20, zmR_20, zaL_20, zaR_20, zleL_20, zleR_20, zltL_20, zltR_20, zeq_20, zxl_20, zil_20, zmL_22, zmR_22, zaL_22, zaR_22, zleL_22, zleR_22, zltL_22, zltR_22, zeq_22, zxl_22, zil_22, zmL_23, zmR_23, zaL_23, zaR_23, zleL_23, zleR_23, zltL_23, zltR_23, zeq_23, zxl_23, zil_23, zmL_24, zmR_24, zaL_24, zaR_24, zleL_24, zleR_24, zltL_24, zltR_24, zeq_24, zxl_24, zil_24, zmL_25, zmR_25, zaL_25, zaR_25, zleL_25, zleR_25, zltL_25, zltR_25, zeq_25, zxl_25, zil_25, zmL_26, zmR_26, zaL_26, zaR_26, zleL_26, zleR_26, zltL_26, zltR_26, zeq_26, zxl_26, zil_26, zmL_32, zmR_32, zaL_32, zaR_32, zleL_32, zleR_32, zltL_32, zltR_32, zeq_32, zxl_32, zil_32, zmL_40, zmR_40, zaL_40, zaR_40, zleL_40, zleR_40, zltL_40, zltR_40, zeq_40, zxl_40, zil_40, zmL_49, zmR_49, zaL_49, zaR_49, zleL_49, zleR_49, zltL_49, zltR_49, zeq_49, zxl_49, zil_49, zmL_58, zmR_58, zaL_58, zaR_58, zleL_58, zleR_58, zltL_58, zltR_58, zeq_58, zxl_58, zil_58, zmL_99, zmR_99, zaL_99, zaR_99, zleL_99, zleR_99, zltL_99, zltR_99, zeq_99, zxl_99, zil_99, zmL_100, zmR_100, zaL_100, zaR_100, zleL_100, zleR_100, zltL_100, zltR_100, zeq_100, zxl_100, zil_100, zmL_107, zmR_107, zaL_107, zaR_107, zleL_107, zleR_107, zltL_107, zltR_107, zeq_107, zxl_107, zil_107, zmL_126, zmR_126, zaL_126, zaR_126, zleL_126, zleR_126, zltL_126, zltR_126, zeq_126, zxl_126, zil_126, zmL_1000, zmR_1000, zaL_1000, zaR_1000, zleL_1000, zleR_1000, zltL_1000, zltR_1000, zeq_1000, zxl_1000, zil_1000, zmL_1605, zmR_1605, zaL_1605, zaR_1605, zleL_1605, zleR_1605, zltL_1605, zltR_1605, zeq_1605, zxl_1605, zil_1605, Option.getD]
          rw [if_pos (Nat.le_refl _)]
          by_cases c2 : x2 < c
          · rw [if_pos c2, if_neg (Int32.not_le.mpr c2)]; rfl
          · rw [if_neg c2, if_pos (Int32.not_lt.mp c2)]; rfl
        · have e : g_X7_votesToBring_17 h 40 zfu (nI p) x2 0 0 = some (-1) := e
          rw [e, d]; rfl
      rw [e5]
      -- the reference
      have key := zloopY (L := fun n i (s : Option Int32) g => g_X12_bring_42 139 n (nI p) x2 (s.getD 0) i g) (N := rn R) (f := ibn R S p x2) (fun _ s g => (∃ c, s = some c) ∧ MS R S g ∧ M0 g ∧ zsm A176 k g) (fun s r => s = none ∧ ∃ g, r = some (-1, g) ∧ zsm A176 k g ∧ M0 g)
        (by
          intro n i s g hi ⟨⟨c, hs⟩, H1, m1, w1⟩
          subst hs
          show (∃ h', g_X12_bring_42 139 (n + 1) (nI p) x2 c (nI i) g = g_X12_bring_42 139 n (nI p) x2 ((ibn R S p x2 i (some c)).getD 0) (nI (i + 1)) h' ∧ _) ∨ (_ ∧ _ ∧ ∃ g', g_X12_bring_42 139 (n + 1) (nI p) x2 c (nI i) g = _ ∧ _)
          rw [g_X12_bring_42, e_X12_isAlive H1 (by omega)]
          simp (disch := omega) only [H1.n, zr_0_0, zr_0_1, zr_0_2, zr_0_3, zr_0_4, zr_0_5, zr_0_6, zr_0_7, zr_0_8, zr_1_0, zr_3_0, zr_3_1, zr_3_2, zr_3_3, zr_3_4, zr_3_5, zr_3_6, zr_10_0, zr_10_1, zr_13_0, zr_13_1, zr_13_4, zr_14_0, zr_14_1, zr_14_2, zr_14_3, zr_14_4, zr_14_5, zr_14_6, zr_21_0, zr_21_1, zr_24_0, zr_24_1, zr_24_2, zr_26_0, zr_26_1, zr_26_4, zr_27_0, zr_37_0, zr_37_1, zr_38_0, zr_44_0, zr_44_1, zr_44_2, zr_44_3, zr_45_0, zr_45_1, zr_52_0, zr_52_1, zr_59_0, zr_59_1, zr_66_0, zr_66_1, zr_73_0, zr_74_0, zr_74_1, zr_74_2, zr_74_3, zr_74_4, zr_74_5, zr_74_6, zr_74_7, zr_74_8, zr_74_9, zr_74_10, zr_74_11, zr_74_12, zr_74_13, zr_74_14, zr_74_15, zr_139_2, zr_139_10, zr_139_11, zr_139_12, zr_139_13, zr_139_14, zr_139_15, zr_139_16, zr_139_17, zr_139_18, zr_139_19, zr_139_20, zr_139_23, zr_139_24, zr_139_25, zr_139_26, zr_139_27, zr_139_28, zr_139_29, zr_139_30, zr_139_31, zr_139_32, zr_139_33, zr_139_34, zr_139_37, zr_139_38, zr_139_39, zr_139_40, zr_139_41, zr_139_42, zr_139_43, zr_139_44, zr_139_45, zr_139_46, zr_139_47, zr_139_48, zr_139_50, zin_t, zx_nI, nI_add, nI_mul, znI_le, znI_lt, znI_eq, znI_neg, zgu_t, zgu_f, zbind_s, zlet_e, zb_eq0, zb_eq1, zb_t, zb_f, zleL_0, zleR_0, zltL_0, zltR_0, zeq_0, zxl_0, zil_0, zmL_1, zmR_1, zaL_1, zaR_1, zleL_1, zleR_1, zltL_1, zltR_1, zeq_1, zxl_1, zil_1, zmL_2, zmR_2, zaL_2, zaR_2, zleL_2, zleR_2, zltL_2, zltR_2, zeq_2, zxl_2, zil_2, zmL_3, zmR_3, zaL_3, zaR_3, zleL_3, zleR_3, zltL_3, zltR_3, zeq_3, zxl_3, zil_3, zmL_4, zmR_4, zaL_4, zaR_4, zleL_4, zleR_4, zltL_4, zltR_4, zeq_4, zxl_4, zil_4, zmL_5, zmR_5, zaL_5, zaR_5, zleL_5, zleR_5, zltL_5, zltR_5, zeq_5, zxl_5, zil_5, zmL_6, zmR_6, zaL_6, zaR_6, zleL_6, zleR_6, zltL_6, zltR_6, zeq_6, zxl_6, zil_6, zmL_7, zmR_7, zaL_7, zaR_7, zleL_7, zleR_7, zltL_7, zltR_7, zeq_7, zxl_7, zil_7, zmL_8, zmR_8, zaL_8, zaR_8, zleL_8, zleR_8, zltL_8, zltR_8, zeq_8, zxl_8, zil_8, zmL_9, zmR_9, zaL_9, zaR_9, zleL_9, zleR_9, zltL_9, zltR_9, zeq_9, zxl_9, zil_9, zmL_10, zmR_10, zaL_10, zaR_10, zleL_10, zleR_10, zltL_10, zltR_10, zeq_10, zxl_10, zil_10, zmL_14, zmR_14, zaL_14, zaR_14, zleL_14, zleR_14, zltL_14, zltR_14, zeq_14, zxl_14, zil_14, zmL_15, zmR_15, zaL_15, zaR_15, zleL_15, zleR_15, zltL_15, zltR_15, zeq_15, zxl_15, zil_15, zmL_16, zmR_16, zaL_16, zaR_16, zleL_16, zleR_16, zltL_16, zltR_16, zeq_16, zxl_16, zil_16, zmL_20, zmR_20, zaL_20, zaR_20, zleL_20, zleR_20, zltL_20, zltR_20, zeq_20, zxl_20, zil_20, zmL_22, zmR_22, zaL_22, zaR_22, zleL_22, zleR_22, zltL_22, zltR_22, zeq_22, zxl_22, zil_22, zmL_23, zmR_23, zaL_23, zaR_23, zleL_23, zleR_23, zltL_23, zltR_23, zeq_23, zxl_23, zil_23, zmL_24, zmR_24, zaL_24, zaR_24, zleL_24, zleR_24, zltL_24, zltR_24, zeq_24, zxl_24, zil_24, zmL_25, zmR_25, zaL_25, zaR_25, zleL_25, zleR_25, zltL_25, zltR_25, zeq_25, zxl_25, zil_25, zmL_26, zmR_26, zaL_26, zaR_26, zleL_26, zleR_26, zltL_26, zltR_26, zeq_26, zxl_26, zil_26, zmL_32, zmR_32, zaL_32, zaR_32, zleL_32, zleR_32, zltL_32, zltR_32, zeq_32, zxl_32, zil_32, zmL_40, zmR_40, zaL_40, zaR_40, zleL_40, zleR_40, zltL_40, zltR_40, zeq_40, zxl_40, zil_40, zmL_49, zmR_49, zaL_49, zaR_49, zleL_49, zleR_49, zltL_49, zltR_49, zeq_49, zxl_49, zil_49, zmL_58, zmR_58, zaL_58, zaR_58, zleL_58, zleR_58, zltL_58, zltR_58, zeq_58, zxl_58, zil_58, zmL_99, zmR_99, zaL_99, zaR_99, zleL_99, zleR_99, zltL_99, zltR_99, zeq_99, zxl_99, zil_99, zmL_100, zmR_100, zaL_100, zaR_100, zleL_100, zleR_100, zltL_100, zltR_100, zeq_100, zxl_100, zil_100, zmL_107, zmR_107, zaL_107, zaR_107, zleL_107, zleR_107, zltL_107, zltR_107, zeq_107, zxl_107, zil_107, zmL_126, zmR_126, zaL_126, zaR_126, zleL_126, zleR_126, zltL_126, zltR_126, zeq_126, zxl_126, zil_126, zmL_1000, zmR_1000, zaL_1000, zaR_1000, zleL_1000, zleR_1000, zltL_1000, zltR_1000, zeq_1000, zxl_1000, zil_1000, zmL_1605, zmR_1605, zaL_1605, zaR_1605, zleL_1605, zleR_1605, zltL_1605, zltR_1605, zeq_1605, zxl_1605, zil_1605]
          rw [if_neg (by omega)]
          unfold ibn i2a
          simp only
          by_cases cp : i = p
          · have : p = i := cp.symm
            rw [if_pos cp]
            left
            refine ⟨g, ?_, ⟨c, ?_⟩, H1, m1, w1⟩
            · simp [this]
            · simp [this]
          · have cp' : ¬ p = i := fun z => cp z.symm
            rw [if_neg cp]
            cases hai : al S i
            · left
              exact ⟨g, by simp, ⟨c, by simp⟩, H1, m1, w1⟩
            · simp only [Bool.true_eq_false, if_false, ha, Bool.and_self, Bool.and_true, cp', decide_false, Bool.not_false, if_true]
              have bi : ind R S p i ≤ 8 := by unfold ind; split <;> omega
              have e74 := e_bring74 H1 m1 hp hi (fun z => cp' z) (k42 := g_X12_bring_42 139 n) (x2 := x2) (x3 := c) (ind R S p i) 0 zfu g (zpi_id m1 (by omega)).symm (by omega) (by show _ < 4000; omega)
              have e74 : g_X12_bring_74 139 (g_X12_bring_42 139 n) zfu (nI p) x2 c (nI i) 0 g = _ := e74
              rw [e74]
              have wz : zsm A176 g (zpi (zpi g 176 i (nI (ind R S p i))) 176 i 0) := (zsm.pi (A := A176) rfl).tr (zsm.pi (A := A176) rfl)
              by_cases c2 : nI (ind R S p i) ≤ x2 - nI (sv S i)
              · simp only [if_pos c2]
                exact Or.inl ⟨_, rfl, ⟨_, rfl⟩, H1.m6 wz, m1.back, w1.tr wz⟩
              · simp only [if_neg c2]
                exact Or.inr ⟨fun j => trivial, trivial, _, rfl, w1.tr wz, m1.back⟩)
        (rn R) 0 (some 0) zfu k (by omega) (by show rn R < 4000; omega) ⟨⟨0, rfl⟩, M.1, M.2.2, zsm.rf⟩
      have hst : g_X12_bring h 139 (nI p) = g_X12_bring_42 139 zfu (nI p) x2 0 0 k := by
        unfold g_X12_bring
        rw [zlet_e, ← hk, e_X12_isPersonX M.1, e, e_X12_isAlive M.1 (by omega), ha, e_X12_allVotes M.1]
        simp (disch := omega) only [M.1.v, Option.isSome, zr_0_0, zr_0_1, zr_0_2, zr_0_3, zr_0_4, zr_0_5, zr_0_6, zr_0_7, zr_0_8, zr_1_0, zr_3_0, zr_3_1, zr_3_2, zr_3_3, zr_3_4, zr_3_5, zr_3_6, zr_10_0, zr_10_1, zr_13_0, zr_13_1, zr_13_4, zr_14_0, zr_14_1, zr_14_2, zr_14_3, zr_14_4, zr_14_5, zr_14_6, zr_21_0, zr_21_1, zr_24_0, zr_24_1, zr_24_2, zr_26_0, zr_26_1, zr_26_4, zr_27_0, zr_37_0, zr_37_1, zr_38_0, zr_44_0, zr_44_1, zr_44_2, zr_44_3, zr_45_0, zr_45_1, zr_52_0, zr_52_1, zr_59_0, zr_59_1, zr_66_0, zr_66_1, zr_73_0, zr_74_0, zr_74_1, zr_74_2, zr_74_3, zr_74_4, zr_74_5, zr_74_6, zr_74_7, zr_74_8, zr_74_9, zr_74_10, zr_74_11, zr_74_12, zr_74_13, zr_74_14, zr_74_15, zr_139_2, zr_139_10, zr_139_11, zr_139_12, zr_139_13, zr_139_14, zr_139_15, zr_139_16, zr_139_17, zr_139_18, zr_139_19, zr_139_20, zr_139_23, zr_139_24, zr_139_25, zr_139_26, zr_139_27, zr_139_28, zr_139_29, zr_139_30, zr_139_31, zr_139_32, zr_139_33, zr_139_34, zr_139_37, zr_139_38, zr_139_39, zr_139_40, zr_139_41, zr_139_42, zr_139_43, zr_139_44, zr_139_45, zr_139_46, zr_139_47, zr_139_48, zr_139_50, zin_t, zx_nI, nI_add, nI_mul, znI_le, znI_lt, znI_eq, znI_neg, zgu_t, zgu_f, zbind_s, zlet_e, zb_eq0, zb_eq1, zb_t, zb_f, zleL_0, zleR_0, zltL_0, zltR_0, zeq_0, zxl_0, zil_0, zmL_1, zmR_1, zaL_1, zaR_1, zleL_1, zleR_1, zltL_1, zltR_1, zeq_1, zxl_1, zil_1, zmL_2, zmR_2, zaL_2, zaR_2, zleL_2, zleR_2, zltL_2, zltR_2, zeq_2, zxl_2, zil_2, zmL_3, zmR_3, zaL_3, zaR_3, zleL_3, zleR_3, zltL_3, zltR_3, zeq_3, zxl_3, zil_3, zmL_4, zmR_4, zaL_4, zaR_4, zleL_4, zleR_4, zltL_4, zltR_4, zeq_4, zxl_4, zil_4, zmL_5, zmR_5, zaL_5, zaR_5, zleL_5, zleR_5, zltL_5, zltR_5, zeq_5, zxl_5, zil_5, zmL_6, zmR_6, zaL_6, zaR_6, zleL_6, zleR_6, zltL_6, zltR_6, zeq_6, zxl_6, zil_6, zmL_7, zmR_7, zaL_7, zaR_7, zleL_7, zleR_7, zltL_7, zltR_7, zeq_7, zxl_7, zil_7, zmL_8, zmR_8, zaL_8, zaR_8, zleL_8, zleR_8, zltL_8, zltR_8, zeq_8, zxl_8, zil_8, zmL_9, zmR_9, zaL_9, zaR_9, zleL_9, zleR_9, zltL_9, zltR_9, zeq_9, zxl_9, zil_9, zmL_10, zmR_10, zaL_10, zaR_10, zleL_10, zleR_10, zltL_10, zltR_10, zeq_10, zxl_10, zil_10, zmL_14, zmR_14, zaL_14, zaR_14, zleL_14, zleR_14, zltL_14, zltR_14, zeq_14, zxl_14, zil_14, zmL_15, zmR_15, zaL_15, zaR_15, zleL_15, zleR_15, zltL_15, zltR_15, zeq_15, zxl_15, zil_15, zmL_16, zmR_16, zaL_16, zaR_16, zleL_16, zleR_16, zltL_16, zltR_16, zeq_16, zxl_16, zil_16, zmL_20, zmR_20, zaL_20, zaR_20, zleL_20, zleR_20, zltL_20, zltR_20, zeq_20, zxl_20, zil_20, zmL_22, zmR_22, zaL_22, zaR_22, zleL_22, zleR_22, zltL_22, zltR_22, zeq_22, zxl_22, zil_22, zmL_23, zmR_23, zaL_23, zaR_23, zleL_23, zleR_23, zltL_23, zltR_23, zeq_23, zxl_23, zil_23, zmL_24, zmR_24, zaL_24, zaR_24, zleL_24, zleR_24, zltL_24, zltR_24, zeq_24, zxl_24, zil_24, zmL_25, zmR_25, zaL_25, zaR_25, zleL_25, zleR_25, zltL_25, zltR_25, zeq_25, zxl_25, zil_25, zmL_26, zmR_26, zaL_26, zaR_26, zleL_26, zleR_26, zltL_26, zltR_26, zeq_26, zxl_26, zil_26, zmL_32, zmR_32, zaL_32, zaR_32, zleL_32, zleR_32, zltL_32, zltR_32, zeq_32, zxl_32, zil_32, zmL_40, zmR_40, zaL_40, zaR_40, zleL_40, zleR_40, zltL_40, zltR_40, zeq_40, zxl_40, zil_40, zmL_49, zmR_49, zaL_49, zaR_49, zleL_49, zleR_49, zltL_49, zltR_49, zeq_49, zxl_49, zil_49, zmL_58, zmR_58, zaL_58, zaR_58, zleL_58, zleR_58, zltL_58, zltR_58, zeq_58, zxl_58, zil_58, zmL_99, zmR_99, zaL_99, zaR_99, zleL_99, zleR_99, zltL_99, zltR_99, zeq_99, zxl_99, zil_99, zmL_100, zmR_100, zaL_100, zaR_100, zleL_100, zleR_100, zltL_100, zltR_100, zeq_100, zxl_100, zil_100, zmL_107, zmR_107, zaL_107, zaR_107, zleL_107, zleR_107, zltL_107, zltR_107, zeq_107, zxl_107, zil_107, zmL_126, zmR_126, zaL_126, zaR_126, zleL_126, zleR_126, zltL_126, zltR_126, zeq_126, zxl_126, zil_126, zmL_1000, zmR_1000, zaL_1000, zaR_1000, zleL_1000, zleR_1000, zltL_1000, zltR_1000, zeq_1000, zxl_1000, zil_1000, zmL_1605, zmR_1605, zaL_1605, zaR_1605, zleL_1605, zleR_1605, zltL_1605, zltR_1605, zeq_1605, zxl_1605, zil_1605, Bool.true_eq_false, if_false, hX]
      rw [hst]
      rcases key with ⟨g, m, e, ⟨c, hc⟩, H', m', w'⟩ | ⟨d, g, e, w', m'⟩
      · refine ⟨_, g, rfl, ?_, w', m'⟩
        refine Eq.trans e ?_
        show g_X12_bring_42 139 (m + 1) (nI p) x2 ((zfold (ibn R S p x2) 0 (rn R) (some 0)).getD 0) (nI (rn R)) g = _
        rw [hc, g_X12_bring_42]
        simp (disch := omega) only [H'.n, zr_0_0, zr_0_1, zr_0_2, zr_0_3, zr_0_4, zr_0_5, zr_0_6, zr_0_7, zr_0_8, zr_1_0, zr_3_0, zr_3_1, zr_3_2, zr_3_3, zr_3_4, zr_3_5, zr_3_6, zr_10_0, zr_10_1, zr_13_0, zr_13_1, zr_13_4, zr_14_0, zr_14_1, zr_14_2, zr_14_3, zr_14_4, zr_14_5, zr_14_6, zr_21_0, zr_21_1, zr_24_0, zr_24_1, zr_24_2, zr_26_0, zr_26_1, zr_26_4, zr_27_0, zr_37_0, zr_37_1, zr_38_0, zr_44_0, zr_44_1, zr_44_2, zr_44_3, zr_45_0, zr_45_1, zr_52_0, zr_52_1, zr_59_0, zr_59_1, zr_66_0, zr_66_1, zr_73_0, zr_74_0, zr_74_1, zr_74_2, zr_74_3, zr_74_4, zr_74_5, zr_74_6, zr_74_7, zr_74_8, zr_74_9, zr_74_10, zr_74_11, zr_74_12, zr_74_13, zr_74_14, zr_74_15, zr_139_2, zr_139_10, zr_139_11, zr_139_12, zr_139_13, zr_139_14, zr_139_15, zr_139_16, zr_139_17, zr_139_18, zr_139_19, zr_139_20, zr_139_23, zr_139_24, zr_139_25, zr_139_26, zr_139_27, zr_139_28, zr_139_29, zr_139_30, zr_139_31, zr_139_32, zr_139_33, zr_139_34, zr_139_37, zr_139_38, zr_139_39, zr_139_40, zr_139_41, zr_139_42, zr_139_43, zr_139_44, zr_139_45, zr_139_46, zr_139_47, zr_139_48, zr_139_50, zin_t, zx_nI, nI_add, nI_mul, znI_le, znI_lt, znI_eq, znI_neg, zgu_t, zgu_f, zbind_s, zlet_e, zb_eq0, zb_eq1, zb_t, zb_f, zleL_0, zleR_0, zltL_0, zltR_0, zeq_0, zxl_0, zil_0, zmL_1, zmR_1, zaL_1, zaR_1, zleL_1, zleR_1, zltL_1, zltR_1, zeq_1, zxl_1, zil_1, zmL_2, zmR_2, zaL_2, zaR_2, zleL_2, zleR_2, zltL_2, zltR_2, zeq_2, zxl_2, zil_2, zmL_3, zmR_3, zaL_3, zaR_3, zleL_3, zleR_3, zltL_3, zltR_3, zeq_3, zxl_3, zil_3, zmL_4, zmR_4, zaL_4, zaR_4, zleL_4, zleR_4, zltL_4, zltR_4, zeq_4, zxl_4, zil_4, zmL_5, zmR_5, zaL_5, zaR_5, zleL_5, zleR_5, zltL_5, zltR_5, zeq_5, zxl_5, zil_5, zmL_6, zmR_6, zaL_6, zaR_6, zleL_6, zleR_6, zltL_6, zltR_6, zeq_6, zxl_6, zil_6, zmL_7, zmR_7, zaL_7, zaR_7, zleL_7, zleR_7, zltL_7, zltR_7, zeq_7, zxl_7, zil_7, zmL_8, zmR_8, zaL_8, zaR_8, zleL_8, zleR_8, zltL_8, zltR_8, zeq_8, zxl_8, zil_8, zmL_9, zmR_9, zaL_9, zaR_9, zleL_9, zleR_9, zltL_9, zltR_9, zeq_9, zxl_9, zil_9, zmL_10, zmR_10, zaL_10, zaR_10, zleL_10, zleR_10, zltL_10, zltR_10, zeq_10, zxl_10, zil_10, zmL_14, zmR_14, zaL_14, zaR_14, zleL_14, zleR_14, zltL_14, zltR_14, zeq_14, zxl_14, zil_14, zmL_15, zmR_15, zaL_15, zaR_15, zleL_15, zleR_15, zltL_15, zltR_15, zeq_15, zxl_15, zil_15, zmL_16, zmR_16, zaL_16, zaR_16, zleL_16, zleR_16, zltL_16, zltR_16, zeq_16, zxl_16, zil_16, zmL_20, zmR_20, zaL_20, zaR_20, zleL_20, zleR_20, zltL_20, zltR_20, zeq_20, zxl_20, zil_20, zmL_22, zmR_22, zaL_22, zaR_22, zleL_22, zleR_22, zltL_22, zltR_22, zeq_22, zxl_22, zil_22, zmL_23, zmR_23, zaL_23, zaR_23, zleL_23, zleR_23, zltL_23, zltR_23, zeq_23, zxl_23, zil_23, zmL_24, zmR_24, zaL_24, zaR_24, zleL_24, zleR_24, zltL_24, zltR_24, zeq_24, zxl_24, zil_24, zmL_25, zmR_25, zaL_25, zaR_25, zleL_25, zleR_25, zltL_25, zltR_25, zeq_25, zxl_25, zil_25, zmL_26, zmR_26, zaL_26, zaR_26, zleL_26, zleR_26, zltL_26, zltR_26, zeq_26, zxl_26, zil_26, zmL_32, zmR_32, zaL_32, zaR_32, zleL_32, zleR_32, zltL_32, zltR_32, zeq_32, zxl_32, zil_32, zmL_40, zmR_40, zaL_40, zaR_40, zleL_40, zleR_40, zltL_40, zltR_40, zeq_40, zxl_40, zil_40, zmL_49, zmR_49, zaL_49, zaR_49, zleL_49, zleR_49, zltL_49, zltR_49, zeq_49, zxl_49, zil_49, zmL_58, zmR_58, zaL_58, zaR_58, zleL_58, zleR_58, zltL_58, zltR_58, zeq_58, zxl_58, zil_58, zmL_99, zmR_99, zaL_99, zaR_99, zleL_99, zleR_99, zltL_99, zltR_99, zeq_99, zxl_99, zil_99, zmL_100, zmR_100, zaL_100, zaR_100, zleL_100, zleR_100, zltL_100, zltR_100, zeq_100, zxl_100, zil_100, zmL_107, zmR_107, zaL_107, zaR_107, zleL_107, zleR_107, zltL_107, zltR_107, zeq_107, zxl_107, zil_107, zmL_126, zmR_126, zaL_126, zaR_126, zleL_126, zleR_126, zltL_126, zltR_126, zeq_126, zxl_126, zil_126, zmL_1000, zmR_1000, zaL_1000, zaR_1000, zleL_1000, zleR_1000, zltL_1000, zltR_1000, zeq_1000, zxl_1000, zil_1000, zmL_1605, zmR_1605, zaL_1605, zaR_1605, zleL_1605, zleR_1605, zltL_1605, zltR_1605, zeq_1605, zxl_1605, zil_1605, Option.getD]
        rw [if_pos (Nat.le_refl _)]
        by_cases c2 : c ≤ x2
        · rw [if_pos c2, if_pos c2]
        · rw [if_neg c2, if_neg c2]
      · refine ⟨_, g, rfl, ?_, w', m'⟩
        rw [d]; exact e
  · refine ⟨-1, k, ?_, ?_, zsm.rf, M.2.2⟩
    · unfold g_X11_bring
      simp only [zr_0_0, zr_0_1, zr_0_2, zr_0_3, zr_0_4, zr_0_5, zr_0_6, zr_0_7, zr_0_8, zr_1_0, zr_3_0, zr_3_1, zr_3_2, zr_3_3, zr_3_4, zr_3_5, zr_3_6, zr_10_0, zr_10_1, zr_13_0, zr_13_1, zr_13_4, zr_14_0, zr_14_1, zr_14_2, zr_14_3, zr_14_4, zr_14_5, zr_14_6, zr_21_0, zr_21_1, zr_24_0, zr_24_1, zr_24_2, zr_26_0, zr_26_1, zr_26_4, zr_27_0, zr_37_0, zr_37_1, zr_38_0, zr_44_0, zr_44_1, zr_44_2, zr_44_3, zr_45_0, zr_45_1, zr_52_0, zr_52_1, zr_59_0, zr_59_1, zr_66_0, zr_66_1, zr_73_0, zr_74_0, zr_74_1, zr_74_2, zr_74_3, zr_74_4, zr_74_5, zr_74_6, zr_74_7, zr_74_8, zr_74_9, zr_74_10, zr_74_11, zr_74_12, zr_74_13, zr_74_14, zr_74_15, zr_139_2, zr_139_10, zr_139_11, zr_139_12, zr_139_13, zr_139_14, zr_139_15, zr_139_16, zr_139_17, zr_139_18, zr_139_19, zr_139_20, zr_139_23, zr_139_24, zr_139_25, zr_139_26, zr_139_27, zr_139_28, zr_139_29, zr_139_30, zr_139_31, zr_139_32, zr_139_33, zr_139_34, zr_139_37, zr_139_38, zr_139_39, zr_139_40, zr_139_41, zr_139_42, zr_139_43, zr_139_44, zr_139_45, zr_139_46, zr_139_47, zr_139_48, zr_139_50]
      rw [e_X7_isAliveN C.1 hx]; rfl
    · unfold g_X12_bring
      rw [zlet_e, ← hk, e_X12_isPersonX M.1, e]; rfl
/-! one who governs is before all others -/
theorem iw_iff {p q : Nat} : iw R p q = true ↔ (if ry R then ra R p < ra R q else ra R q < ra R p) ∨ (ra R p = ra R q ∧ p < q) := by
  unfold iw
  by_cases c : ra R p = ra R q
  · simp only [if_pos c, decide_eq_true_eq]
    constructor
    · intro z; exact Or.inr ⟨c, z⟩
    · intro z
      rcases z with z | z
      · split at z <;> omega
      · exact z.2
  · simp only [if_neg c]
    cases ry R
    · simp only [Bool.false_eq_true, if_false, decide_eq_true_eq]
      constructor
      · intro z; exact Or.inl z
      · intro z; rcases z with z | z
        · exact z
        · exact absurd z.1 c
    · simp only [if_true, decide_eq_true_eq]
      constructor
      · intro z; exact Or.inl z
      · intro z; rcases z with z | z
        · exact z
        · exact absurd z.1 c
theorem iw_tot {p q : Nat} (h : p ≠ q) : iw R p q = !iw R q p := by
  have a := iw_iff (R := R) (p := p) (q := q)
  have b := iw_iff (R := R) (p := q) (q := p)
  cases h1 : iw R p q <;> cases h2 : iw R q p <;> rw [h1] at a <;> rw [h2] at b <;> simp at a b ⊢ <;> cases hy : ry R <;> rw [hy] at a b <;> simp at a b <;> omega
theorem iw_tr {p q r : Nat} (h1 : iw R p q = true) (h2 : iw R q r = true) : iw R p r = true := by
  rw [iw_iff] at *
  cases hy : ry R <;> rw [hy] at h1 h2 <;> simp at h1 h2 ⊢ <;> omega
theorem iaM_tot {mo : Nat → Nat} {p q : Nat} (h : p ≠ q) : iaM R S mo p q = !iaM R S mo q p := by
  unfold iaM
  rw [iw_tot h]
  rcases Nat.lt_trichotomy (mo p + ic R S p) (mo q + ic R S q) with c | c | c
  · have c1 : ¬ mo q + ic R S q < mo p + ic R S p := by omega
    have c2 : ¬ mo q + ic R S q = mo p + ic R S p := by omega
    simp [c, c1, c2]
  · have c1 : ¬ mo q + ic R S q < mo p + ic R S p := by omega
    have c0 : ¬ mo p + ic R S p < mo q + ic R S q := by omega
    simp [c]
  · have c1 : ¬ mo p + ic R S p < mo q + ic R S q := by omega
    have c2 : ¬ mo p + ic R S p = mo q + ic R S q := by omega
    simp [c, c1, c2]
theorem iaM_tr {mo : Nat → Nat} {p q r : Nat} (h1 : iaM R S mo p q = true) (h2 : iaM R S mo q r = true) : iaM R S mo p r = true := by
  unfold iaM at *
  simp at h1 h2 ⊢
  rcases h1 with h1 | ⟨h1, h3⟩
  · rcases h2 with h2 | ⟨h2, h4⟩
    · left; omega
    · left; omega
  · rcases h2 with h2 | ⟨h2, h4⟩
    · left; omega
    · right; exact ⟨by omega, iw_tr h3 h4⟩
theorem igM_iff {mo : Nat → Nat} {p : Nat} : igM R S mo = some p ↔ p < rn R ∧ al S p = true ∧ ∀ q, q < rn R → al S q = true → q ≠ p → iaM R S mo p q = true := by
  have inv := zfold_inv (f := igsM R S mo) (N := rn R) (fun i s => (s = none → ∀ q, q < i → al S q = false) ∧ ∀ b, s = some b → b < i ∧ al S b = true ∧ ∀ q, q < i → al S q = true → q ≠ b → iaM R S mo b q = true)
    (by
      intro i s hi ⟨h0, h1⟩
      unfold igsM
      cases ha : al S i
      · simp only [Bool.false_eq_true, if_false]
        refine ⟨fun hs q hq => ?_, fun b hb => ?_⟩
        · by_cases c : q = i
          · rw [c]; exact ha
          · exact h0 hs q (by omega)
        · obtain ⟨a, b', c⟩ := h1 b hb
          refine ⟨by omega, b', fun q hq hq2 hne => ?_⟩
          by_cases d : q = i
          · rw [d, ha] at hq2; cases hq2
          · exact c q (by omega) hq2 hne
      · simp only [if_true]
        cases s with
        | none =>
          refine ⟨fun hs => (by cases hs), fun b hb => ?_⟩
          cases hb
          refine ⟨by omega, ha, fun q hq hq2 hne => ?_⟩
          have := h0 rfl q (by omega)
          rw [this] at hq2; cases hq2
        | some b =>
          obtain ⟨a, b', c⟩ := h1 b rfl
          simp only
          by_cases d : iaM R S mo i b = true
          · rw [if_pos d]
            refine ⟨fun hs => (by cases hs), fun b2 hb2 => ?_⟩
            cases hb2
            refine ⟨by omega, ha, fun q hq hq2 hne => ?_⟩
            by_cases e : q = b
            · rw [e]; exact d
            · exact iaM_tr d (c q (by omega) hq2 e)
          · rw [if_neg d]
            refine ⟨fun hs => (by cases hs), fun b2 hb2 => ?_⟩
            cases hb2
            refine ⟨by omega, b', fun q hq hq2 hne => ?_⟩
            by_cases e : q = i
            · rw [e, iaM_tot (by omega)]
              simp at d
              rw [d]; rfl
            · exact c q (by omega) hq2 hne)
    (rn R) 0 none (by omega) ⟨fun _ q hq => by omega, fun b hb => by cases hb⟩
  constructor
  · intro hg
    exact inv.2 p hg
  · intro ⟨hp, ha, hall⟩
    have inv : (igM R S mo = none → ∀ q, q < rn R → al S q = false) ∧ ∀ b, igM R S mo = some b → b < rn R ∧ al S b = true ∧ ∀ q, q < rn R → al S q = true → q ≠ b → iaM R S mo b q = true := inv
    cases hg : igM R S mo with
    | none => have := inv.1 hg p hp; rw [this] at ha; cases ha
    | some b =>
      obtain ⟨a, b', c⟩ := inv.2 b hg
      by_cases d : b = p
      · rw [d]
      · have x1 := c p hp ha (fun z => d z.symm)
        have x2 := hall b a b' d
        rw [iaM_tot (fun z => d z), x2] at x1
        cases x1
end O8
