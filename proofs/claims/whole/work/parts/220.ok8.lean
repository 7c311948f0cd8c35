/-! bears, sets -/
section O9
variable {R : zRp} {S S' S0 : zSt} {pc pc' : Nat} {pS pS' : Nat → zSt} {Z : zZ} {h h' h1 h2 : zH} {t : Nat}
def ild (R : zRp) (S : zSt) (p q : Nat) : Nat := ic R S q - ic R S p - (if iw R p q then 0 else 1)
theorem zlead : ∀ a, a < 8 → ∀ b, b < 8 → ∀ w : Bool, (decide (a < b) || (decide (a = b) && w)) = true → nI b - nI a - (if w then 0 else 1) = nI (b - a - (if w then 0 else 1)) := by decide +kernel
def ibl (R : zRp) (S : zSt) (p i : Nat) (s : Option Nat) : Option Nat := if i2a S p i then (match s with
  | none => some (ild R S p i)
  | some b => some (if ild R S p i < b then ild R S p i else b)) else s
theorem ibl_inv {p : Nat} : ((zfold (ibl R S p) 0 (rn R) none) = none → ∀ q, q < rn R → i2a S p q = false) ∧ ∀ L, (zfold (ibl R S p) 0 (rn R) none) = some L → (∃ q, q < rn R ∧ i2a S p q = true ∧ ild R S p q = L) ∧ ∀ q, q < rn R → i2a S p q = true → L ≤ ild R S p q := by
  refine zfold_inv (f := ibl R S p) (N := rn R) (fun i s => (s = none → ∀ q, q < i → i2a S p q = false) ∧ ∀ L, s = some L → (∃ q, q < i ∧ i2a S p q = true ∧ ild R S p q = L) ∧ ∀ q, q < i → i2a S p q = true → L ≤ ild R S p q) ?_ (rn R) 0 none (by omega) ⟨fun _ q hq => by omega, fun L hL => by cases hL⟩
  intro i s hi ⟨h0, h1⟩
  unfold ibl
  cases hc : i2a S p i
  · simp only [Bool.false_eq_true, if_false]
    refine ⟨fun hs q hq => ?_, fun L hL => ?_⟩
    · by_cases c : q = i
      · rw [c]; exact hc
      · exact h0 hs q (by omega)
    · obtain ⟨⟨q, a, b, c⟩, d⟩ := h1 L hL
      refine ⟨⟨q, by omega, b, c⟩, fun r hr hr2 => ?_⟩
      by_cases e : r = i
      · rw [e, hc] at hr2; cases hr2
      · exact d r (by omega) hr2
  · simp only [if_true]
    cases s with
    | none =>
      refine ⟨fun hs => (by cases hs), fun L hL => ?_⟩
      cases hL
      refine ⟨⟨i, by omega, hc, rfl⟩, fun r hr hr2 => ?_⟩
      by_cases e : r = i
      · rw [e]; exact Nat.le_refl _
      · have := h0 rfl r (by omega); rw [this] at hr2; cases hr2
    | some b =>
      obtain ⟨⟨q, a, b', c⟩, d⟩ := h1 b rfl
      refine ⟨fun hs => (by cases hs), fun L hL => ?_⟩
      simp only [Option.some.injEq] at hL
      by_cases e : ild R S p i < b
      · rw [if_pos e] at hL
        refine ⟨⟨i, by omega, hc, hL⟩, fun r hr hr2 => ?_⟩
        by_cases f : r = i
        · rw [f]; omega
        · have := d r (by omega) hr2; omega
      · rw [if_neg e] at hL
        refine ⟨⟨q, by omega, b', by omega⟩, fun r hr hr2 => ?_⟩
        by_cases f : r = i
        · rw [f]; omega
        · have := d r (by omega) hr2; omega
theorem zbits0 : ∀ a, a < 128 → (∀ k, k < 7 → a.testBit k = false) → a = 0 := by decide +kernel
theorem ig_igM {p : Nat} (hg : ig R S = some p) : ∀ q, q < rn R → al S q = true → q ≠ p → ia R S p q = true := by
  rw [← igM_0] at hg
  have := (igM_iff.mp hg).2.2
  intro q h1 h2 h3
  have := this q h1 h2 h3
  unfold iaM at this
  simp only [Nat.zero_add] at this
  exact this
theorem e_bears33 (H : MS R S h) (M : M0 h) {p L : Nat} (hp : p < rn R) (ha : al S p = true) (hg : ig R S = some p) (hL : (∃ q, q < rn R ∧ i2a S p q = true ∧ ild R S p q = L) ∧ ∀ q, q < rn R → i2a S p q = true → L ≤ ild R S p q) : ∀ d m n g, g = zpi h 176 p (nI m) → m + d = L + 1 → d < n → g_X12_bears_33 139 n (nI p) (nI m - 1) g = some (nI L, zpi (zpi h 176 p (nI (L + 1))) 176 p 0) := by
  have hn := H.n7
  have key : ∀ m, (igM R S (fun x => if x = p then m else 0) = some p) ↔ m ≤ L := by
    intro m
    rw [igM_iff]
    have ph : ∀ q, q < rn R → al S q = true → q ≠ p → (iaM R S (fun x => if x = p then m else 0) p q = true ↔ m ≤ ild R S p q) := by
      intro q h1 h2 h3
      have h0 := ig_igM hg q h1 h2 h3
      unfold ia at h0
      unfold iaM ild
      simp only [if_true, if_neg h3]
      cases hw : iw R p q
      · rw [hw] at h0
        simp at h0 ⊢; omega
      · rw [hw] at h0
        simp at h0 ⊢; omega
    constructor
    · intro ⟨_, _, z⟩
      obtain ⟨q, a, b, c⟩ := hL.1
      have b2 := b
      unfold i2a at b2
      simp at b2
      have := (ph q a b2.2.2 (fun z => b2.1 z.symm)).mp (z q a b2.2.2 (fun z => b2.1 z.symm))
      omega
    · intro z
      refine ⟨hp, ha, fun q h1 h2 h3 => (ph q h1 h2 h3).mpr ?_⟩
      have : i2a S p q = true := by
        unfold i2a
        have : ¬ p = q := fun z => h3 z.symm
        simp [this, ha, h2]
      have := hL.2 q h1 this
      omega
  have L8 : L ≤ 7 := by
    obtain ⟨q, a, b, c⟩ := hL.1
    have := ic_le hn H.2.1 (p := q) (by omega)
    unfold ild at c
    omega
  intro d
  induction d with
  | zero =>
    intro m n g hg' hm hd
    obtain ⟨n, rfl⟩ : ∃ m, n = m + 1 := ⟨n - 1, by omega⟩
    rw [g_X12_bears_33, hg', e_X12_govM H M (by omega)]
    simp only [zbind_s, zo_eq (s := igM R S (fun x => if x = p then m else 0)) (q := p) (fun b hb => by have := (igM_lt hb).1; omega) (by omega)]
    rw [if_neg (fun z => by have := (key m).mp z; omega)]
    simp (disch := omega) only [zr_0_0, zr_0_1, zr_0_2, zr_0_3, zr_0_4, zr_0_5, zr_0_6, zr_0_7, zr_0_8, zr_1_0, zr_3_0, zr_3_1, zr_3_2, zr_3_3, zr_3_4, zr_3_5, zr_3_6, zr_10_0, zr_10_1, zr_13_0, zr_13_1, zr_13_4, zr_14_0, zr_14_1, zr_14_2, zr_14_3, zr_14_4, zr_14_5, zr_14_6, zr_21_0, zr_21_1, zr_24_0, zr_24_1, zr_24_2, zr_26_0, zr_26_1, zr_26_4, zr_27_0, zr_37_0, zr_37_1, zr_38_0, zr_44_0, zr_44_1, zr_44_2, zr_44_3, zr_45_0, zr_45_1, zr_52_0, zr_52_1, zr_59_0, zr_59_1, zr_66_0, zr_66_1, zr_73_0, zr_74_0, zr_74_1, zr_74_2, zr_74_3, zr_74_4, zr_74_5, zr_74_6, zr_74_7, zr_74_8, zr_74_9, zr_74_10, zr_74_11, zr_74_12, zr_74_13, zr_74_14, zr_74_15, zr_139_2, zr_139_10, zr_139_11, zr_139_12, zr_139_13, zr_139_14, zr_139_15, zr_139_16, zr_139_17, zr_139_18, zr_139_19, zr_139_20, zr_139_23, zr_139_24, zr_139_25, zr_139_26, zr_139_27, zr_139_28, zr_139_29, zr_139_30, zr_139_31, zr_139_32, zr_139_33, zr_139_34, zr_139_37, zr_139_38, zr_139_39, zr_139_40, zr_139_41, zr_139_42, zr_139_43, zr_139_44, zr_139_45, zr_139_46, zr_139_47, zr_139_48, zr_139_50, zin_t, zx_nI, nI_add, nI_mul, znI_le, znI_lt, znI_eq, znI_neg, zgu_t, zgu_f, zbind_s, zlet_e, zb_eq0, zb_eq1, zb_t, zb_f, zleL_0, zleR_0, zltL_0, zltR_0, zeq_0, zxl_0, zil_0, zmL_1, zmR_1, zaL_1, zaR_1, zleL_1, zleR_1, zltL_1, zltR_1, zeq_1, zxl_1, zil_1, zmL_2, zmR_2, zaL_2, zaR_2, zleL_2, zleR_2, zltL_2, zltR_2, zeq_2, zxl_2, zil_2, zmL_3, zmR_3, zaL_3, zaR_3, zleL_3, zleR_3, zltL_3, zltR_3, zeq_3, zxl_3, zil_3, zmL_4, zmR_4, zaL_4, zaR_4, zleL_4, zleR_4, zltL_4, zltR_4, zeq_4, zxl_4, zil_4, zmL_5, zmR_5, zaL_5, zaR_5, zleL_5, zleR_5, zltL_5, zltR_5, zeq_5, zxl_5, zil_5, zmL_6, zmR_6, zaL_6, zaR_6, zleL_6, zleR_6, zltL_6, zltR_6, zeq_6, zxl_6, zil_6, zmL_7, zmR_7, zaL_7, zaR_7, zleL_7, zleR_7, zltL_7, zltR_7, zeq_7, zxl_7, zil_7, zmL_8, zmR_8, zaL_8, zaR_8, zleL_8, zleR_8, zltL_8, zltR_8, zeq_8, zxl_8, zil_8, zmL_9, zmR_9, zaL_9, zaR_9, zleL_9, zleR_9, zltL_9, zltR_9, zeq_9, zxl_9, zil_9, zmL_10, zmR_10, zaL_10, zaR_10, zleL_10, zleR_10, zltL_10, zltR_10, zeq_10, zxl_10, zil_10, zmL_14, zmR_14, zaL_14, zaR_14, zleL_14, zleR_14, zltL_14, zltR_14, zeq_14, zxl_14, zil_14, zmL_15, zmR_15, zaL_15, zaR_15, zleL_15, zleR_15, zltL_15, zltR_15, zeq_15, zxl_15, zil_15, zmL_16, zmR_16, zaL_16, zaR_16, zleL_16, zleR_16, zltL_16, zltR_16, zeq_16, zxl_16, zil_16, zmL_20, zmR_20, zaL_20, zaR_20, zleL_20, zleR_20, zltL_20, zltR_20, zeq_20, zxl_20, zil_20, zmL_22, zmR_22, zaL_22, zaR_22, zleL_22, zleR_22, zltL_22, zltR_22, zeq_22, zxl_22, zil_22, zmL_23, zmR_23, zaL_23, zaR_23, zleL_23, zleR_23, zltL_23, zltR_23, zeq_23, zxl_23, zil_23, zmL_24, zmR_24, zaL_24, zaR_24, zleL_24, zleR_24, zltL_24, zltR_24, zeq_24, zxl_24, zil_24, zmL_25, zmR_25, zaL_25, zaR_25, zleL_25, zleR_25, zltL_25, zltR_25, zeq_25, zxl_25, zil_25, zmL_26, zmR_26, zaL_26, zaR_26, zleL_26, zleR_26, zltL_26, zltR_26, zeq_26, zxl_26, zil_26, zmL_32, zmR_32, zaL_32, zaR_32, zleL_32, zleR_32, zltL_32, zltR_32, zeq_32, zxl_32, zil_32, zmL_40, zmR_40, zaL_40, zaR_40, zleL_40, zleR_40, zltL_40, zltR_40, zeq_40, zxl_40, zil_40, zmL_49, zmR_49, zaL_49, zaR_49, zleL_49, zleR_49, zltL_49, zltR_49, zeq_49, zxl_49, zil_49, zmL_58, zmR_58, zaL_58, zaR_58, zleL_58, zleR_58, zltL_58, zltR_58, zeq_58, zxl_58, zil_58, zmL_99, zmR_99, zaL_99, zaR_99, zleL_99, zleR_99, zltL_99, zltR_99, zeq_99, zxl_99, zil_99, zmL_100, zmR_100, zaL_100, zaR_100, zleL_100, zleR_100, zltL_100, zltR_100, zeq_100, zxl_100, zil_100, zmL_107, zmR_107, zaL_107, zaR_107, zleL_107, zleR_107, zltL_107, zltR_107, zeq_107, zxl_107, zil_107, zmL_126, zmR_126, zaL_126, zaR_126, zleL_126, zleR_126, zltL_126, zltR_126, zeq_126, zxl_126, zil_126, zmL_1000, zmR_1000, zaL_1000, zaR_1000, zleL_1000, zleR_1000, zltL_1000, zltR_1000, zeq_1000, zxl_1000, zil_1000, zmL_1605, zmR_1605, zaL_1605, zaR_1605, zleL_1605, zleR_1605, zltL_1605, zltR_1605, zeq_1605, zxl_1605, zil_1605]
    have : m = L + 1 := by omega
    subst this
    rw [nI_s1 (by omega)]; rfl
  | succ d ih =>
    intro m n g hg' hm hd
    obtain ⟨n, rfl⟩ : ∃ m, n = m + 1 := ⟨n - 1, by omega⟩
    rw [g_X12_bears_33, hg', e_X12_govM H M (by omega)]
    simp only [zbind_s, zo_eq (s := igM R S (fun x => if x = p then m else 0)) (q := p) (fun b hb => by have := (igM_lt hb).1; omega) (by omega)]
    rw [if_pos ((key m).mpr (by omega))]
    have r2 : (zpi h 176 p (nI m)).1 176 p = nI m := by rw [zpi_r, if_pos ⟨rfl, rfl⟩]
    simp (disch := omega) only [r2, zr_0_0, zr_0_1, zr_0_2, zr_0_3, zr_0_4, zr_0_5, zr_0_6, zr_0_7, zr_0_8, zr_1_0, zr_3_0, zr_3_1, zr_3_2, zr_3_3, zr_3_4, zr_3_5, zr_3_6, zr_10_0, zr_10_1, zr_13_0, zr_13_1, zr_13_4, zr_14_0, zr_14_1, zr_14_2, zr_14_3, zr_14_4, zr_14_5, zr_14_6, zr_21_0, zr_21_1, zr_24_0, zr_24_1, zr_24_2, zr_26_0, zr_26_1, zr_26_4, zr_27_0, zr_37_0, zr_37_1, zr_38_0, zr_44_0, zr_44_1, zr_44_2, zr_44_3, zr_45_0, zr_45_1, zr_52_0, zr_52_1, zr_59_0, zr_59_1, zr_66_0, zr_66_1, zr_73_0, zr_74_0, zr_74_1, zr_74_2, zr_74_3, zr_74_4, zr_74_5, zr_74_6, zr_74_7, zr_74_8, zr_74_9, zr_74_10, zr_74_11, zr_74_12, zr_74_13, zr_74_14, zr_74_15, zr_139_2, zr_139_10, zr_139_11, zr_139_12, zr_139_13, zr_139_14, zr_139_15, zr_139_16, zr_139_17, zr_139_18, zr_139_19, zr_139_20, zr_139_23, zr_139_24, zr_139_25, zr_139_26, zr_139_27, zr_139_28, zr_139_29, zr_139_30, zr_139_31, zr_139_32, zr_139_33, zr_139_34, zr_139_37, zr_139_38, zr_139_39, zr_139_40, zr_139_41, zr_139_42, zr_139_43, zr_139_44, zr_139_45, zr_139_46, zr_139_47, zr_139_48, zr_139_50, zin_t, zx_nI, nI_add, nI_mul, znI_le, znI_lt, znI_eq, znI_neg, zgu_t, zgu_f, zbind_s, zlet_e, zb_eq0, zb_eq1, zb_t, zb_f, zleL_0, zleR_0, zltL_0, zltR_0, zeq_0, zxl_0, zil_0, zmL_1, zmR_1, zaL_1, zaR_1, zleL_1, zleR_1, zltL_1, zltR_1, zeq_1, zxl_1, zil_1, zmL_2, zmR_2, zaL_2, zaR_2, zleL_2, zleR_2, zltL_2, zltR_2, zeq_2, zxl_2, zil_2, zmL_3, zmR_3, zaL_3, zaR_3, zleL_3, zleR_3, zltL_3, zltR_3, zeq_3, zxl_3, zil_3, zmL_4, zmR_4, zaL_4, zaR_4, zleL_4, zleR_4, zltL_4, zltR_4, zeq_4, zxl_4, zil_4, zmL_5, zmR_5, zaL_5, zaR_5, zleL_5, zleR_5, zltL_5, zltR_5, zeq_5, zxl_5, zil_5, zmL_6, zmR_6, zaL_6, zaR_6, zleL_6, zleR_6, zltL_6, zltR_6, zeq_6, zxl_6, zil_6, zmL_7, zmR_7, zaL_7, zaR_7, zleL_7, zleR_7, zltL_7, zltR_7, zeq_7, zxl_7, zil_7, zmL_8, zmR_8, zaL_8, zaR_8, zleL_8, zleR_8, zltL_8, zltR_8, zeq_8, zxl_8, zil_8, zmL_9, zmR_9, zaL_9, zaR_9, zleL_9, zleR_9, zltL_9, zltR_9, zeq_9, zxl_9, zil_9, zmL_10, zmR_10, zaL_10, zaR_10, zleL_10, zleR_10, zltL_10, zltR_10, zeq_10, zxl_10, zil_10, zmL_14, zmR_14, zaL_14, zaR_14, zleL_14, zleR_14, zltL_14, zltR_14, zeq_14, zxl_14, zil_14, zmL_15, zmR_15, zaL_15, zaR_15, zleL_15, zleR_15, zltL_15, zltR_15, zeq_15, zxl_15, zil_15, zmL_16, zmR_16, zaL_16, zaR_16, zleL_16, zleR_16, zltL_16, zltR_16, zeq_16, zxl_16, zil_16, zmL_20, zmR_20, zaL_20, zaR_20, zleL_20, zleR_20, zltL_20, zltR_20, zeq_20, zxl_20, zil_20, zmL_22, zmR_22, zaL_22, zaR_22, zleL_22, zleR_22, zltL_22, zltR_22, zeq_22, zxl_22, zil_22, zmL_23, zmR_23, zaL_23, zaR_23, zleL_23, zleR_23, zltL_23, zltR_23, zeq_23, zxl_23, zil_23, zmL_24, zmR_24, zaL_24, zaR_24, zleL_24, zleR_24, zltL_24, zltR_24, zeq_24, zxl_24, zil_24, zmL_25, zmR_25, zaL_25, zaR_25, zleL_25, zleR_25, zltL_25, zltR_25, zeq_25, zxl_25, zil_25, zmL_26, zmR_26, zaL_26, zaR_26, zleL_26, zleR_26, zltL_26, zltR_26, zeq_26, zxl_26, zil_26, zmL_32, zmR_32, zaL_32, zaR_32, zleL_32, zleR_32, zltL_32, zltR_32, zeq_32, zxl_32, zil_32, zmL_40, zmR_40, zaL_40, zaR_40, zleL_40, zleR_40, zltL_40, zltR_40, zeq_40, zxl_40, zil_40, zmL_49, zmR_49, zaL_49, zaR_49, zleL_49, zleR_49, zltL_49, zltR_49, zeq_49, zxl_49, zil_49, zmL_58, zmR_58, zaL_58, zaR_58, zleL_58, zleR_58, zltL_58, zltR_58, zeq_58, zxl_58, zil_58, zmL_99, zmR_99, zaL_99, zaR_99, zleL_99, zleR_99, zltL_99, zltR_99, zeq_99, zxl_99, zil_99, zmL_100, zmR_100, zaL_100, zaR_100, zleL_100, zleR_100, zltL_100, zltR_100, zeq_100, zxl_100, zil_100, zmL_107, zmR_107, zaL_107, zaR_107, zleL_107, zleR_107, zltL_107, zltR_107, zeq_107, zxl_107, zil_107, zmL_126, zmR_126, zaL_126, zaR_126, zleL_126, zleR_126, zltL_126, zltR_126, zeq_126, zxl_126, zil_126, zmL_1000, zmR_1000, zaL_1000, zaR_1000, zleL_1000, zleR_1000, zltL_1000, zltR_1000, zeq_1000, zxl_1000, zil_1000, zmL_1605, zmR_1605, zaL_1605, zaR_1605, zleL_1605, zleR_1605, zltL_1605, zltR_1605, zeq_1605, zxl_1605, zil_1605]
    have e1 : nI m - 1 + 1 = nI (m + 1) - 1 := by
      rw [← nI_1]
      apply Int32.toBitVec_inj.mp
      simp only [Int32.toBitVec_add, Int32.toBitVec_sub]
      rw [BitVec.sub_add_cancel, BitVec.add_sub_cancel]
    rw [e1]
    refine ih (m + 1) n _ ?_ (by omega) (by omega)
    apply Prod.ext
    · funext a b
      rw [zpi_r, zpi_r, zpi_r]
      by_cases c : a = 176 ∧ b = p
      · rw [if_pos c, if_pos c]
      · rw [if_neg c, if_neg c, if_neg c]
    · rfl
theorem ok_bears (H : Rel h) (x : Int32) : OKq h (g_X11_bears h 0 x) (fun h => g_X12_bears h 139 x) := by
  refine okq2 H (fun R S C k hk M => ?_)
  have hn := C.1.n7
  show ∃ v h2, g_X11_bears h 0 x = some v ∧ g_X12_bears h 139 x = _ ∧ _
  rcases zps_cases (rn R) (by omega) x with ⟨p, hp, rfl, e⟩ | ⟨hx, e⟩
  · have eq1 : (zo (ig R S) = nI p) = (ig R S = some p) := zo_eq (fun b hb => by have := (ig_lt hb).1; omega) (by omega)
    by_cases cg : ig R S = some p
    · have ha := (ig_lt cg).2
      have inv := ibl_inv (R := R) (S := S) (p := p)
      have e5 : g_X11_bears h 0 (nI p) = some (zo (zfold (ibl R S p) 0 (rn R) none)) := by
        have key := zloop (L := fun n i (s : Option Nat) => g_X7_votesToBear_4 h 40 n (nI p) (zo s) i) (N := rn R) (f := ibl R S p) (fin := fun s => some (zo s)) (fun _ s => ∀ b, s = some b → b < 100)
          (by
            intro n i s hi hP
            show g_X7_votesToBear_4 h 40 (n + 1) (nI p) (zo s) (nI i) = _
            have b1 := ic_le hn C.1.2.1 (p := p) (by omega)
            have b2 := ic_le hn C.1.2.1 (p := i) (by omega)
            obtain ⟨v, f1, -, f3⟩ := e_X7_lead C.1 hp hi
            rw [g_X7_votesToBear_4, e_X7_two C.1 (by omega) (by omega), f1]
            simp (disch := omega) only [C.1.e0, C.1.n, zin_t, zx_nI, nI_add, nI_mul, znI_le, znI_lt, znI_eq, znI_neg, zgu_t, zgu_f, zbind_s, zlet_e, zb_eq0, zb_eq1, zb_t, zb_f, zleL_0, zleR_0, zltL_0, zltR_0, zeq_0, zxl_0, zil_0, zmL_1, zmR_1, zaL_1, zaR_1, zleL_1, zleR_1, zltL_1, zltR_1, zeq_1, zxl_1, zil_1, zmL_2, zmR_2, zaL_2, zaR_2, zleL_2, zleR_2, zltL_2, zltR_2, zeq_2, zxl_2, zil_2, zmL_3, zmR_3, zaL_3, zaR_3, zleL_3, zleR_3, zltL_3, zltR_3, zeq_3, zxl_3, zil_3, zmL_4, zmR_4, zaL_4, zaR_4, zleL_4, zleR_4, zltL_4, zltR_4, zeq_4, zxl_4, zil_4, zmL_5, zmR_5, zaL_5, zaR_5, zleL_5, zleR_5, zltL_5, zltR_5, zeq_5, zxl_5, zil_5, zmL_6, zmR_6, zaL_6, zaR_6, zleL_6, zleR_6, zltL_6, zltR_6, zeq_6, zxl_6, zil_6, zmL_7, zmR_7, zaL_7, zaR_7, zleL_7, zleR_7, zltL_7, zltR_7, zeq_7, zxl_7, zil_7, zmL_8, zmR_8, zaL_8, zaR_8, zleL_8, zleR_8, zltL_8, zltR_8, zeq_8, zxl_8, zil_8, zmL_9, zmR_9, zaL_9, zaR_9, zleL_9, zleR_9, zltL_9, zltR_9, zeq_9, zxl_9, zil_9, zmL_10, zmR_10, zaL_10, zaR_10, zleL_10, zleR_10, zltL_10, zltR_10, zeq_10, zxl_10, zil_10, zmL_14, zmR_14, zaL_14, zaR_14, zleL_14, zleR_14, zltL_14, zltR_14, zeq_14, zxl_14, zil_14, zmL_15, zmR_15, zaL_15, zaR_15, zleL_15, zleR_15, zltL_15, zltR_15, zeq_15, zxl_15, zil_15, zmL_16, zmR_16, zaL_16, zaR_16, zleL_16, zleR_16, zltL_16, zltR_16, zeq_16, zxl_16, zil_16, zmL_20, zmR_20, zaL_20, zaR_20, zleL_20, zleR_20, zltL_20, zltR_20, zeq_20, zxl_20, zil_20, zmL_22, zmR_22, zaL_22, zaR_22, zleL_22, zleR_22, zltL_22, zltR_22, zeq_22, zxl_22, zil_22, zmL_23, zmR_23, zaL_23, zaR_23, zleL_23, zleR_23, zltL_23, zltR_23, zeq_23, zxl_23, zil_23, zmL_24, zmR_24, zaL_24, zaR_24, zleL_24, zleR_24, zltL_24, zltR_24, zeq_24, zxl_24, zil_24, zmL_25, zmR_25, zaL_25, zaR_25, zleL_25, zleR_25, zltL_25, zltR_25, zeq_25, zxl_25, zil_25, zmL_26, zmR_26, zaL_26, zaR_26, zleL_26, zleR_26, zltL_26, zltR_26, zeq_26, zxl_26, zil_26, zmL_32, zmR_32, zaL_32, zaR_32, zleL_32, zleR_32, zltL_32, zltR_32, zeq_32, zxl_32, zil_32, zmL_40, zmR_40, zaL_40, zaR_40, zleL_40, zleR_40, zltL_40, zltR_40, zeq_40, zxl_40, zil_40, zmL_49, zmR_49, zaL_49, zaR_49, zleL_49, zleR_49, zltL_49, zltR_49, zeq_49, zxl_49, zil_49, zmL_58, zmR_58, zaL_58, zaR_58, zleL_58, zleR_58, zltL_58, zltR_58, zeq_58, zxl_58, zil_58, zmL_99, zmR_99, zaL_99, zaR_99, zleL_99, zleR_99, zltL_99, zltR_99, zeq_99, zxl_99, zil_99, zmL_100, zmR_100, zaL_100, zaR_100, zleL_100, zleR_100, zltL_100, zltR_100, zeq_100, zxl_100, zil_100, zmL_107, zmR_107, zaL_107, zaR_107, zleL_107, zleR_107, zltL_107, zltR_107, zeq_107, zxl_107, zil_107, zmL_126, zmR_126, zaL_126, zaR_126, zleL_126, zleR_126, zltL_126, zltR_126, zeq_126, zxl_126, zil_126, zmL_1000, zmR_1000, zaL_1000, zaR_1000, zleL_1000, zleR_1000, zltL_1000, zltR_1000, zeq_1000, zxl_1000, zil_1000, zmL_1605, zmR_1605, zaL_1605, zaR_1605, zleL_1605, zleR_1605, zltL_1605, zltR_1605, zeq_1605, zxl_1605, zil_1605]
            rw [if_neg (by omega)]
            unfold ibl
            cases hc : i2a S p i
            · simp
            · simp only [Bool.true_eq_false, if_false, if_true]
              have hc2 := hc
              unfold i2a at hc2
              simp at hc2
              have hia := ig_igM cg i hi hc2.2.2 (fun z => hc2.1 z.symm)
              unfold ia at hia
              have f4 : v = nI (ild R S p i) := by
                rw [f3, zlead _ (by omega) _ (by omega) _ hia]; rfl
              have b3 : ild R S p i ≤ 7 := by unfold ild; omega
              cases s with
              | none => rw [zo_none, if_pos rfl, f4]; rfl
              | some b =>
                have := hP b rfl
                simp only [zo_some, f4, znI_neg (show b < 2147483648 by omega), if_false]
                simp (disch := omega) only [znI_lt]
                by_cases c2 : ild R S p i < b
                · simp [c2]
                · simp [c2])
          (by
            intro i s hi hP b hb
            have b2 := ic_le hn C.1.2.1 (p := i) (by omega)
            have b3 : ild R S p i ≤ 7 := by unfold ild; omega
            unfold ibl at hb
            split at hb
            · split at hb
              · cases hb; omega
              · rename_i b0
                have := hP b0 rfl
                simp only [Option.some.injEq] at hb
                split at hb <;> omega
            · exact hP b hb)
          (by
            intro n s _
            show g_X7_votesToBear_4 h 40 (n + 1) (nI p) (zo s) (nI (rn R)) = _
            rw [g_X7_votesToBear_4]
            simp (disch := omega) only [C.1.e0, C.1.n, zin_t, zx_nI, nI_add, nI_mul, znI_le, znI_lt, znI_eq, znI_neg, zgu_t, zgu_f, zbind_s, zlet_e, zb_eq0, zb_eq1, zb_t, zb_f, zleL_0, zleR_0, zltL_0, zltR_0, zeq_0, zxl_0, zil_0, zmL_1, zmR_1, zaL_1, zaR_1, zleL_1, zleR_1, zltL_1, zltR_1, zeq_1, zxl_1, zil_1, zmL_2, zmR_2, zaL_2, zaR_2, zleL_2, zleR_2, zltL_2, zltR_2, zeq_2, zxl_2, zil_2, zmL_3, zmR_3, zaL_3, zaR_3, zleL_3, zleR_3, zltL_3, zltR_3, zeq_3, zxl_3, zil_3, zmL_4, zmR_4, zaL_4, zaR_4, zleL_4, zleR_4, zltL_4, zltR_4, zeq_4, zxl_4, zil_4, zmL_5, zmR_5, zaL_5, zaR_5, zleL_5, zleR_5, zltL_5, zltR_5, zeq_5, zxl_5, zil_5, zmL_6, zmR_6, zaL_6, zaR_6, zleL_6, zleR_6, zltL_6, zltR_6, zeq_6, zxl_6, zil_6, zmL_7, zmR_7, zaL_7, zaR_7, zleL_7, zleR_7, zltL_7, zltR_7, zeq_7, zxl_7, zil_7, zmL_8, zmR_8, zaL_8, zaR_8, zleL_8, zleR_8, zltL_8, zltR_8, zeq_8, zxl_8, zil_8, zmL_9, zmR_9, zaL_9, zaR_9, zleL_9, zleR_9, zltL_9, zltR_9, zeq_9, zxl_9, zil_9, zmL_10, zmR_10, zaL_10, zaR_10, zleL_10, zleR_10, zltL_10, zltR_10, zeq_10, zxl_10, zil_10, zmL_14, zmR_14, zaL_14, zaR_14, zleL_14, zleR_14, zltL_14, zltR_14, zeq_14, zxl_14, zil_14, zmL_15, zmR_15, zaL_15, zaR_15, zleL_15, zleR_15, zltL_15, zltR_15, zeq_15, zxl_15, zil_15, zmL_16, zmR_16, zaL_16, zaR_16, zleL_16, zleR_16, zltL_16, zltR_16, zeq_16, zxl_16, zil_16, zmL_20, zmR_20, zaL_20, zaR_20, zleL_20, zleR_20, zltL_20, zltR_20, zeq_20, zxl_20, zil_20, zmL_22, zmR_22, zaL_22, zaR_22, zleL_22, zleR_22, zltL_22, zltR_22, zeq_22, zxl_22, zil_22, zmL_23, zmR_23, zaL_23, zaR_23, zleL_23, zleR_23, zltL_23, zltR_23, zeq_23, zxl_23, zil_23, zmL_24, zmR_24, zaL_24, zaR_24, zleL_24, zleR_24, zltL_24, zltR_24, zeq_24, zxl_24, zil_24, zmL_25, zmR_25, zaL_25, zaR_25, zleL_25, zleR_25, zltL_25, zltR_25, zeq_25, zxl_25, zil_25, zmL_26, zmR_26, zaL_26, zaR_26, zleL_26, zleR_26, zltL_26, zltR_26, zeq_26, zxl_26, zil_26, zmL_32, zmR_32, zaL_32, zaR_32, zleL_32, zleR_32, zltL_32, zltR_32, zeq_32, zxl_32, zil_32, zmL_40, zmR_40, zaL_40, zaR_40, zleL_40, zleR_40, zltL_40, zltR_40, zeq_40, zxl_40, zil_40, zmL_49, zmR_49, zaL_49, zaR_49, zleL_49, zleR_49, zltL_49, zltR_49, zeq_49, zxl_49, zil_49, zmL_58, zmR_58, zaL_58, zaR_58, zleL_58, zleR_58, zltL_58, zltR_58, zeq_58, zxl_58, zil_58, zmL_99, zmR_99, zaL_99, zaR_99, zleL_99, zleR_99, zltL_99, zltR_99, zeq_99, zxl_99, zil_99, zmL_100, zmR_100, zaL_100, zaR_100, zleL_100, zleR_100, zltL_100, zltR_100, zeq_100, zxl_100, zil_100, zmL_107, zmR_107, zaL_107, zaR_107, zleL_107, zleR_107, zltL_107, zltR_107, zeq_107, zxl_107, zil_107, zmL_126, zmR_126, zaL_126, zaR_126, zleL_126, zleR_126, zltL_126, zltR_126, zeq_126, zxl_126, zil_126, zmL_1000, zmR_1000, zaL_1000, zaR_1000, zleL_1000, zleR_1000, zltL_1000, zltR_1000, zeq_1000, zxl_1000, zil_1000, zmL_1605, zmR_1605, zaL_1605, zaR_1605, zleL_1605, zleR_1605, zltL_1605, zltR_1605, zeq_1605, zxl_1605, zil_1605]
            rw [if_pos (Nat.le_refl _)])
          (rn R) 0 none zfu (by omega) (by show rn R < 4000; omega) (fun b hb => by cases hb)
        unfold g_X11_bears g_X7_votesToBear
        simp only [zr_0_0, zr_0_1, zr_0_2, zr_0_3, zr_0_4, zr_0_5, zr_0_6, zr_0_7, zr_0_8, zr_1_0, zr_3_0, zr_3_1, zr_3_2, zr_3_3, zr_3_4, zr_3_5, zr_3_6, zr_10_0, zr_10_1, zr_13_0, zr_13_1, zr_13_4, zr_14_0, zr_14_1, zr_14_2, zr_14_3, zr_14_4, zr_14_5, zr_14_6, zr_21_0, zr_21_1, zr_24_0, zr_24_1, zr_24_2, zr_26_0, zr_26_1, zr_26_4, zr_27_0, zr_37_0, zr_37_1, zr_38_0, zr_44_0, zr_44_1, zr_44_2, zr_44_3, zr_45_0, zr_45_1, zr_52_0, zr_52_1, zr_59_0, zr_59_1, zr_66_0, zr_66_1, zr_73_0, zr_74_0, zr_74_1, zr_74_2, zr_74_3, zr_74_4, zr_74_5, zr_74_6, zr_74_7, zr_74_8, zr_74_9, zr_74_10, zr_74_11, zr_74_12, zr_74_13, zr_74_14, zr_74_15, zr_139_2, zr_139_10, zr_139_11, zr_139_12, zr_139_13, zr_139_14, zr_139_15, zr_139_16, zr_139_17, zr_139_18, zr_139_19, zr_139_20, zr_139_23, zr_139_24, zr_139_25, zr_139_26, zr_139_27, zr_139_28, zr_139_29, zr_139_30, zr_139_31, zr_139_32, zr_139_33, zr_139_34, zr_139_37, zr_139_38, zr_139_39, zr_139_40, zr_139_41, zr_139_42, zr_139_43, zr_139_44, zr_139_45, zr_139_46, zr_139_47, zr_139_48, zr_139_50]
        rw [e_X5_hasX C.1, e, e_X7_governor C.1]
        simp only [Option.isSome, zbind_s, zb_eq0, Bool.true_eq_false, if_false, eq1, if_pos cg]
        have key : g_X7_votesToBear_4 h 40 zfu (nI p) (-1) 0 = _ := key
        rw [key]; rfl
      rw [e5]
      have hst : g_X12_bears h 139 (nI p) = if clr (sa S) p = 0 then some (-1, k) else g_X12_bears_33 139 zfu (nI p) (-1) k := by
        unfold g_X12_bears g_X12_isOther
        have hlt := M.1.2.1.lt hn
        rw [zlet_e, ← hk, e_X12_isPersonX M.1, e, e_X12_gov M.1 M.2.2]
        simp (disch := omega) only [M.1.a, (clr_ok (sa S) hlt p (by omega)).1, Option.isSome, zr_0_0, zr_0_1, zr_0_2, zr_0_3, zr_0_4, zr_0_5, zr_0_6, zr_0_7, zr_0_8, zr_1_0, zr_3_0, zr_3_1, zr_3_2, zr_3_3, zr_3_4, zr_3_5, zr_3_6, zr_10_0, zr_10_1, zr_13_0, zr_13_1, zr_13_4, zr_14_0, zr_14_1, zr_14_2, zr_14_3, zr_14_4, zr_14_5, zr_14_6, zr_21_0, zr_21_1, zr_24_0, zr_24_1, zr_24_2, zr_26_0, zr_26_1, zr_26_4, zr_27_0, zr_37_0, zr_37_1, zr_38_0, zr_44_0, zr_44_1, zr_44_2, zr_44_3, zr_45_0, zr_45_1, zr_52_0, zr_52_1, zr_59_0, zr_59_1, zr_66_0, zr_66_1, zr_73_0, zr_74_0, zr_74_1, zr_74_2, zr_74_3, zr_74_4, zr_74_5, zr_74_6, zr_74_7, zr_74_8, zr_74_9, zr_74_10, zr_74_11, zr_74_12, zr_74_13, zr_74_14, zr_74_15, zr_139_2, zr_139_10, zr_139_11, zr_139_12, zr_139_13, zr_139_14, zr_139_15, zr_139_16, zr_139_17, zr_139_18, zr_139_19, zr_139_20, zr_139_23, zr_139_24, zr_139_25, zr_139_26, zr_139_27, zr_139_28, zr_139_29, zr_139_30, zr_139_31, zr_139_32, zr_139_33, zr_139_34, zr_139_37, zr_139_38, zr_139_39, zr_139_40, zr_139_41, zr_139_42, zr_139_43, zr_139_44, zr_139_45, zr_139_46, zr_139_47, zr_139_48, zr_139_50, zin_t, zx_nI, nI_add, nI_mul, znI_le, znI_lt, znI_eq, znI_neg, zgu_t, zgu_f, zbind_s, zlet_e, zb_eq0, zb_eq1, zb_t, zb_f, zleL_0, zleR_0, zltL_0, zltR_0, zeq_0, zxl_0, zil_0, zmL_1, zmR_1, zaL_1, zaR_1, zleL_1, zleR_1, zltL_1, zltR_1, zeq_1, zxl_1, zil_1, zmL_2, zmR_2, zaL_2, zaR_2, zleL_2, zleR_2, zltL_2, zltR_2, zeq_2, zxl_2, zil_2, zmL_3, zmR_3, zaL_3, zaR_3, zleL_3, zleR_3, zltL_3, zltR_3, zeq_3, zxl_3, zil_3, zmL_4, zmR_4, zaL_4, zaR_4, zleL_4, zleR_4, zltL_4, zltR_4, zeq_4, zxl_4, zil_4, zmL_5, zmR_5, zaL_5, zaR_5, zleL_5, zleR_5, zltL_5, zltR_5, zeq_5, zxl_5, zil_5, zmL_6, zmR_6, zaL_6, zaR_6, zleL_6, zleR_6, zltL_6, zltR_6, zeq_6, zxl_6, zil_6, zmL_7, zmR_7, zaL_7, zaR_7, zleL_7, zleR_7, zltL_7, zltR_7, zeq_7, zxl_7, zil_7, zmL_8, zmR_8, zaL_8, zaR_8, zleL_8, zleR_8, zltL_8, zltR_8, zeq_8, zxl_8, zil_8, zmL_9, zmR_9, zaL_9, zaR_9, zleL_9, zleR_9, zltL_9, zltR_9, zeq_9, zxl_9, zil_9, zmL_10, zmR_10, zaL_10, zaR_10, zleL_10, zleR_10, zltL_10, zltR_10, zeq_10, zxl_10, zil_10, zmL_14, zmR_14, zaL_14, zaR_14, zleL_14, zleR_14, zltL_14, zltR_14, zeq_14, zxl_14, zil_14, zmL_15, zmR_15, zaL_15, zaR_15, zleL_15, zleR_15, zltL_15, zltR_15, zeq_15, zxl_15, zil_15, zmL_16, zmR_16, zaL_16, zaR_16, zleL_16, zleR_16, zltL_16, zltR_16, zeq_16, zxl_16, zil_16, zmL_20, zmR_20, zaL_20, zaR_20, zleL_20, zleR_20, zltL_20, zltR_20, zeq_20, zxl_20, zil_20, zmL_22, zmR_22, zaL_22, zaR_22, zleL_22, zleR_22, zltL_22, zltR_22, zeq_22, zxl_22, zil_22, zmL_23, zmR_23, zaL_23, zaR_23, zleL_23, zleR_23, zltL_23, zltR_23, zeq_23, zxl_23, zil_23, zmL_24, zmR_24, zaL_24, zaR_24, zleL_24, zleR_24, zltL_24, zltR_24, zeq_24, zxl_24, zil_24, zmL_25, zmR_25, zaL_25, zaR_25, zleL_25, zleR_25, zltL_25, zltR_25, zeq_25, zxl_25, zil_25, zmL_26, zmR_26, zaL_26, zaR_26, zleL_26, zleR_26, zltL_26, zltR_26, zeq_26, zxl_26, zil_26, zmL_32, zmR_32, zaL_32, zaR_32, zleL_32, zleR_32, zltL_32, zltR_32, zeq_32, zxl_32, zil_32, zmL_40, zmR_40, zaL_40, zaR_40, zleL_40, zleR_40, zltL_40, zltR_40, zeq_40, zxl_40, zil_40, zmL_49, zmR_49, zaL_49, zaR_49, zleL_49, zleR_49, zltL_49, zltR_49, zeq_49, zxl_49, zil_49, zmL_58, zmR_58, zaL_58, zaR_58, zleL_58, zleR_58, zltL_58, zltR_58, zeq_58, zxl_58, zil_58, zmL_99, zmR_99, zaL_99, zaR_99, zleL_99, zleR_99, zltL_99, zltR_99, zeq_99, zxl_99, zil_99, zmL_100, zmR_100, zaL_100, zaR_100, zleL_100, zleR_100, zltL_100, zltR_100, zeq_100, zxl_100, zil_100, zmL_107, zmR_107, zaL_107, zaR_107, zleL_107, zleR_107, zltL_107, zltR_107, zeq_107, zxl_107, zil_107, zmL_126, zmR_126, zaL_126, zaR_126, zleL_126, zleR_126, zltL_126, zltR_126, zeq_126, zxl_126, zil_126, zmL_1000, zmR_1000, zaL_1000, zaR_1000, zleL_1000, zleR_1000, zltL_1000, zltR_1000, zeq_1000, zxl_1000, zil_1000, zmL_1605, zmR_1605, zaL_1605, zaR_1605, zleL_1605, zleR_1605, zltL_1605, zltR_1605, zeq_1605, zxl_1605, zil_1605, Bool.true_eq_false, if_false, eq1, if_pos cg]
        have := clr_le (sa S) p
        simp only [show (nI (clr (sa S) p) = 0) = (clr (sa S) p = 0) from zeq_0 (by omega)]
        by_cases c : clr (sa S) p = 0
        · simp [c]
        · simp [c]
      rw [hst]
      have hlt := M.1.2.1.lt hn
      have cb := (clr_ok (sa S) hlt p (by omega)).2
      cases hf : zfold (ibl R S p) 0 (rn R) none with
      | none =>
        have hno := inv.1 hf
        have c0 : clr (sa S) p = 0 := by
          refine zbits0 _ (Nat.lt_of_le_of_lt (clr_le _ _) hlt) (fun j hj => ?_)
          rw [cb j hj]
          by_cases c : j = p
          · simp [c]
          · cases hb : (sa S).testBit j
            · rfl
            · exfalso
              have hj2 := al_lt M.1.2.1 (p := j) hb
              have := hno j hj2
              unfold i2a at this
              have c' : ¬ p = j := fun z => c z.symm
              have hb2 : al S j = true := hb
              simp [c', ha, hb2] at this
        rw [if_pos c0]
        exact ⟨-1, k, rfl, rfl, zsm.rf, M.2.2⟩
      | some L =>
        have hsome := inv.2 L hf
        have c0 : ¬ clr (sa S) p = 0 := by
          intro z
          obtain ⟨q, a, b, -⟩ := hsome.1
          unfold i2a at b
          simp at b
          have := cb q (by omega)
          rw [z] at this
          have b2 : (sa S).testBit q = true := b.2.2
          have b3 : ¬ q = p := fun z => b.1 z.symm
          simp [b2, b3] at this
        rw [if_neg c0]
        have e33 := e_bears33 M.1 M.2.2 hp ha cg hsome (L + 1) 0 zfu k (zpi_id M.2.2 (by omega)).symm (by omega) (by
          obtain ⟨q, a, b, c⟩ := hsome.1
          have := ic_le hn M.1.2.1 (p := q) (by omega)
          unfold ild at c
          show _ < 4000
          omega)
        have e33 : g_X12_bears_33 139 zfu (nI p) (-1) k = _ := e33
        exact ⟨_, _, rfl, e33, (zsm.pi (A := A176) rfl).tr (zsm.pi (A := A176) rfl), M.2.2.back⟩
    · refine ⟨-1, k, ?_, ?_, zsm.rf, M.2.2⟩
      · unfold g_X11_bears
        simp only [zr_0_0, zr_0_1, zr_0_2, zr_0_3, zr_0_4, zr_0_5, zr_0_6, zr_0_7, zr_0_8, zr_1_0, zr_3_0, zr_3_1, zr_3_2, zr_3_3, zr_3_4, zr_3_5, zr_3_6, zr_10_0, zr_10_1, zr_13_0, zr_13_1, zr_13_4, zr_14_0, zr_14_1, zr_14_2, zr_14_3, zr_14_4, zr_14_5, zr_14_6, zr_21_0, zr_21_1, zr_24_0, zr_24_1, zr_24_2, zr_26_0, zr_26_1, zr_26_4, zr_27_0, zr_37_0, zr_37_1, zr_38_0, zr_44_0, zr_44_1, zr_44_2, zr_44_3, zr_45_0, zr_45_1, zr_52_0, zr_52_1, zr_59_0, zr_59_1, zr_66_0, zr_66_1, zr_73_0, zr_74_0, zr_74_1, zr_74_2, zr_74_3, zr_74_4, zr_74_5, zr_74_6, zr_74_7, zr_74_8, zr_74_9, zr_74_10, zr_74_11, zr_74_12, zr_74_13, zr_74_14, zr_74_15, zr_139_2, zr_139_10, zr_139_11, zr_139_12, zr_139_13, zr_139_14, zr_139_15, zr_139_16, zr_139_17, zr_139_18, zr_139_19, zr_139_20, zr_139_23, zr_139_24, zr_139_25, zr_139_26, zr_139_27, zr_139_28, zr_139_29, zr_139_30, zr_139_31, zr_139_32, zr_139_33, zr_139_34, zr_139_37, zr_139_38, zr_139_39, zr_139_40, zr_139_41, zr_139_42, zr_139_43, zr_139_44, zr_139_45, zr_139_46, zr_139_47, zr_139_48, zr_139_50]
        rw [e_X5_hasX C.1, e, e_X7_governor C.1]
        simp only [Option.isSome, zbind_s, zb_eq0, Bool.true_eq_false, if_false, eq1, if_neg cg]
      · unfold g_X12_bears
        rw [zlet_e, ← hk, e_X12_isPersonX M.1, e, e_X12_gov M.1 M.2.2]
        simp only [Option.isSome, zbind_s, zb_eq0, Bool.true_eq_false, if_false, eq1, if_neg cg]
  · refine ⟨-1, k, ?_, ?_, zsm.rf, M.2.2⟩
    · unfold g_X11_bears
      simp only [zr_0_0, zr_0_1, zr_0_2, zr_0_3, zr_0_4, zr_0_5, zr_0_6, zr_0_7, zr_0_8, zr_1_0, zr_3_0, zr_3_1, zr_3_2, zr_3_3, zr_3_4, zr_3_5, zr_3_6, zr_10_0, zr_10_1, zr_13_0, zr_13_1, zr_13_4, zr_14_0, zr_14_1, zr_14_2, zr_14_3, zr_14_4, zr_14_5, zr_14_6, zr_21_0, zr_21_1, zr_24_0, zr_24_1, zr_24_2, zr_26_0, zr_26_1, zr_26_4, zr_27_0, zr_37_0, zr_37_1, zr_38_0, zr_44_0, zr_44_1, zr_44_2, zr_44_3, zr_45_0, zr_45_1, zr_52_0, zr_52_1, zr_59_0, zr_59_1, zr_66_0, zr_66_1, zr_73_0, zr_74_0, zr_74_1, zr_74_2, zr_74_3, zr_74_4, zr_74_5, zr_74_6, zr_74_7, zr_74_8, zr_74_9, zr_74_10, zr_74_11, zr_74_12, zr_74_13, zr_74_14, zr_74_15, zr_139_2, zr_139_10, zr_139_11, zr_139_12, zr_139_13, zr_139_14, zr_139_15, zr_139_16, zr_139_17, zr_139_18, zr_139_19, zr_139_20, zr_139_23, zr_139_24, zr_139_25, zr_139_26, zr_139_27, zr_139_28, zr_139_29, zr_139_30, zr_139_31, zr_139_32, zr_139_33, zr_139_34, zr_139_37, zr_139_38, zr_139_39, zr_139_40, zr_139_41, zr_139_42, zr_139_43, zr_139_44, zr_139_45, zr_139_46, zr_139_47, zr_139_48, zr_139_50]
      rw [e_X5_hasX C.1, e]; rfl
    · unfold g_X12_bears
      rw [zlet_e, ← hk, e_X12_isPersonX M.1, e]; rfl
end O9
