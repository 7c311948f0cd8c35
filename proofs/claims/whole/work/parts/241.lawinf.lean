/-! laws: what the reference works out of its code, as it is told -/
/-- a level: what opened it (1 not, 2 a bracket), what is kept, what is ahead of a test, a sum, a product; the part at hand -/
abbrev Fr : Type := Nat × Option (Nat × Fn) × Option (Nat × Fn) × Option (Nat × Fn) × Option Fn × Option Fn
abbrev fm (f : Fr) : Nat := f.1
abbrev fK (f : Fr) : Option (Nat × Fn) := f.2.1
abbrev fA (f : Fr) : Option (Nat × Fn) := f.2.2.1
abbrev fS (f : Fr) : Option (Nat × Fn) := f.2.2.2.1
abbrev fp (f : Fr) : Option Fn := f.2.2.2.2.1
abbrev fc (f : Fr) : Option Fn := f.2.2.2.2.2
def co (o : Option (Nat × Fn)) (x : Fn) : Fn := match o with
  | none => x
  | some (op, f) => fun e => jn op (f e) (x e)
def pr (p : Option Fn) (v : Fn) : Fn := match p with
  | none => v
  | some u => fun e => jn 10 (u e) (v e)
/-- a level's worth, with the part v at hand -/
def fv (f : Fr) (v : Fn) : Fn := co (fK f) (co (fA f) (co (fS f) (pr (fp f) v)))
def rcd (op : Nat) : Nat := if op = 8 then 20 else if op = 9 then 21 else if op = 6 then 24 else if op = 7 then 25 else if op = 36 then 26 else if op = 37 then 27 else 22
def evM (h : zH) : Ev := (h.1 163 1, h.1 163 2, h.1 163 3, h.1 163 4)
def RFr (e : Ev) (h : zH) (d : Nat) (f : Fr) : Prop := (match fK f with
    | none => h.1 155 d = 0
    | some (op, g) => h.1 155 d = nI (rcd op) ∧ (op = 36 ∨ op = 37) ∧ h.1 154 d = g e) ∧ (match fA f with
    | none => h.1 157 d = 0
    | some (op, g) => h.1 157 d = nI (rcd op) ∧ (op = 6 ∨ op = 7) ∧ h.1 156 d = g e) ∧ (match fS f with
    | none => h.1 158 d = 0 ∧ h.1 159 d = 20
    | some (op, g) => h.1 159 d = nI (rcd op) ∧ (op = 8 ∨ op = 9) ∧ h.1 158 d = g e) ∧ (match fc f with
    | some v => h.1 160 d = pr (fp f) v e
    | none => (match fp f with
      | none => h.1 161 d = 0
      | some u => h.1 161 d = 22 ∧ h.1 160 d = u e)) ∧ (0 < d → h.1 162 d = if fm f = 1 then 1 else 0)
def rf (e : Ev) (h : zH) : List Fr → Prop
  | [] => True
  | f :: r => RFr e h r.length f ∧ rf e h r
def ADd (d : Nat) : Nat → Nat → Prop := fun a k => (154 ≤ a ∧ a ≤ 162) ∧ k = d
def ADw : Nat → Nat → Prop := fun a _ => 154 ≤ a ∧ a ≤ 162
section L4
variable {h h' : zH} {A : Nat → Nat → Prop} {e : Ev} {d : Nat} {f : Fr}
theorem RFr.same (H : RFr e h d f) (x : ∀ a, 154 ≤ a → a ≤ 162 → h'.1 a d = h.1 a d) : RFr e h' d f := by
  obtain ⟨h1, h2, h3, h4, h5⟩ := H
  refine ⟨?_, ?_, ?_, ?_, fun z => by rw [x 162 (by omega) (by omega)]; exact h5 z⟩
  · cases hK : fK f with
    | none => rw [hK] at h1; show h'.1 155 d = 0; rw [x 155 (by omega) (by omega)]; exact h1
    | some q => rw [hK] at h1; exact ⟨by rw [x 155 (by omega) (by omega)]; exact h1.1, h1.2.1, by rw [x 154 (by omega) (by omega)]; exact h1.2.2⟩
  · cases hK : fA f with
    | none => rw [hK] at h2; show h'.1 157 d = 0; rw [x 157 (by omega) (by omega)]; exact h2
    | some q => rw [hK] at h2; exact ⟨by rw [x 157 (by omega) (by omega)]; exact h2.1, h2.2.1, by rw [x 156 (by omega) (by omega)]; exact h2.2.2⟩
  · cases hK : fS f with
    | none => rw [hK] at h3; exact ⟨by rw [x 158 (by omega) (by omega)]; exact h3.1, by rw [x 159 (by omega) (by omega)]; exact h3.2⟩
    | some q => rw [hK] at h3; exact ⟨by rw [x 159 (by omega) (by omega)]; exact h3.1, h3.2.1, by rw [x 158 (by omega) (by omega)]; exact h3.2.2⟩
  · cases hc : fc f with
    | some v => rw [hc] at h4; show h'.1 160 d = _; rw [x 160 (by omega) (by omega)]; exact h4
    | none =>
      rw [hc] at h4
      cases hp : fp f with
      | none => rw [hp] at h4; show h'.1 161 d = 0; rw [x 161 (by omega) (by omega)]; exact h4
      | some u => rw [hp] at h4; exact ⟨by rw [x 161 (by omega) (by omega)]; exact h4.1, by rw [x 160 (by omega) (by omega)]; exact h4.2⟩
theorem rf_same : ∀ {r : List Fr}, rf e h r → (∀ a k, k < r.length → 154 ≤ a → a ≤ 162 → h'.1 a k = h.1 a k) → rf e h' r := by
  intro r
  induction r with
  | nil => intro _ _; trivial
  | cons f r ih =>
    intro H x
    exact ⟨H.1.same (fun a h1 h2 => x a r.length (by simp) h1 h2), ih H.2 (fun a k hk => x a k (by simp only [List.length_cons]; omega))⟩
theorem rf_low {r : List Fr} (H : rf e h r) (x : zsm (ADd d) h h') (hd : r.length ≤ d) : rf e h' r := rf_same H (fun a k hk _ _ => (x a k (by unfold ADd; omega)).1)
theorem z0a (x : Int32) : 0 + x = x := Int32.zero_add x
theorem e_sums (hd : d < 7) {v : Fn} (hv : fc f = some v) (H : RFr e h d f) : ∃ h', g_X12_sums h 139 (nI d) = some h' ∧ h'.1 158 d = co (fS f) (pr (fp f) v) e ∧ h'.1 161 d = 0 ∧ zsm (fun a k => (a = 158 ∨ a = 161) ∧ k = d) h h' := by
  obtain ⟨h1, h2, h3, h4, h5⟩ := H
  rw [hv] at h4
  have h4 : h.1 160 d = pr (fp f) v e := h4
  have fin : ∀ s : Int32, s = co (fS f) (pr (fp f) v) e → ∃ h', g_X12_sums_45 139 (nI d) s (nI d) h = some h' ∧ h'.1 158 d = co (fS f) (pr (fp f) v) e ∧ h'.1 161 d = 0 ∧ zsm (fun a k => (a = 158 ∨ a = 161) ∧ k = d) h h' := by
    intro s hs
    refine ⟨zpi (zpi h 158 d s) 161 d 0, ?_, ?_, ?_, (zsm.pi ⟨Or.inl rfl, rfl⟩).tr (zsm.pi ⟨Or.inr rfl, rfl⟩)⟩
    · unfold g_X12_sums_45
      rw [zin_t hd (by omega), zx_nI (by omega)]
      simp only [zr_0_0, zr_0_1, zr_0_2, zr_0_3, zr_0_4, zr_0_5, zr_0_6, zr_0_7, zr_0_8, zr_1_0, zr_3_0, zr_3_1, zr_3_2, zr_3_3, zr_3_4, zr_3_5, zr_3_6, zr_10_0, zr_10_1, zr_13_0, zr_13_1, zr_13_4, zr_14_0, zr_14_1, zr_14_2, zr_14_3, zr_14_4, zr_14_5, zr_14_6, zr_21_0, zr_21_1, zr_24_0, zr_24_1, zr_24_2, zr_26_0, zr_26_1, zr_26_4, zr_27_0, zr_37_0, zr_37_1, zr_38_0, zr_44_0, zr_44_1, zr_44_2, zr_44_3, zr_45_0, zr_45_1, zr_52_0, zr_52_1, zr_59_0, zr_59_1, zr_66_0, zr_66_1, zr_73_0, zr_74_0, zr_74_1, zr_74_2, zr_74_3, zr_74_4, zr_74_5, zr_74_6, zr_74_7, zr_74_8, zr_74_9, zr_74_10, zr_74_11, zr_74_12, zr_74_13, zr_74_14, zr_74_15, zr_139_2, zr_139_10, zr_139_11, zr_139_12, zr_139_13, zr_139_14, zr_139_15, zr_139_16, zr_139_17, zr_139_18, zr_139_19, zr_139_20, zr_139_23, zr_139_24, zr_139_25, zr_139_26, zr_139_27, zr_139_28, zr_139_29, zr_139_30, zr_139_31, zr_139_32, zr_139_33, zr_139_34, zr_139_37, zr_139_38, zr_139_39, zr_139_40, zr_139_41, zr_139_42, zr_139_43, zr_139_44, zr_139_45, zr_139_46, zr_139_47, zr_139_48, zr_139_50, zgu_t, zlet_e]
    · rw [zpi_r, if_neg (by omega), zpi_r, if_pos ⟨rfl, rfl⟩]; exact hs
    · rw [zpi_r, if_pos ⟨rfl, rfl⟩]
  unfold g_X12_sums
  rw [zin_t hd (by omega), zx_nI (by omega)]
  simp only [zr_0_0, zr_0_1, zr_0_2, zr_0_3, zr_0_4, zr_0_5, zr_0_6, zr_0_7, zr_0_8, zr_1_0, zr_3_0, zr_3_1, zr_3_2, zr_3_3, zr_3_4, zr_3_5, zr_3_6, zr_10_0, zr_10_1, zr_13_0, zr_13_1, zr_13_4, zr_14_0, zr_14_1, zr_14_2, zr_14_3, zr_14_4, zr_14_5, zr_14_6, zr_21_0, zr_21_1, zr_24_0, zr_24_1, zr_24_2, zr_26_0, zr_26_1, zr_26_4, zr_27_0, zr_37_0, zr_37_1, zr_38_0, zr_44_0, zr_44_1, zr_44_2, zr_44_3, zr_45_0, zr_45_1, zr_52_0, zr_52_1, zr_59_0, zr_59_1, zr_66_0, zr_66_1, zr_73_0, zr_74_0, zr_74_1, zr_74_2, zr_74_3, zr_74_4, zr_74_5, zr_74_6, zr_74_7, zr_74_8, zr_74_9, zr_74_10, zr_74_11, zr_74_12, zr_74_13, zr_74_14, zr_74_15, zr_139_2, zr_139_10, zr_139_11, zr_139_12, zr_139_13, zr_139_14, zr_139_15, zr_139_16, zr_139_17, zr_139_18, zr_139_19, zr_139_20, zr_139_23, zr_139_24, zr_139_25, zr_139_26, zr_139_27, zr_139_28, zr_139_29, zr_139_30, zr_139_31, zr_139_32, zr_139_33, zr_139_34, zr_139_37, zr_139_38, zr_139_39, zr_139_40, zr_139_41, zr_139_42, zr_139_43, zr_139_44, zr_139_45, zr_139_46, zr_139_47, zr_139_48, zr_139_50, zgu_t]
  rw [h4]
  cases hS : fS f with
  | none =>
    rw [hS] at h3 fin
    rw [h3.1, h3.2, if_neg (by decide)]
    exact fin _ (z0a _)
  | some q =>
    obtain ⟨op, g⟩ := q
    rw [hS] at h3 fin
    obtain ⟨a1, a2, a3⟩ := h3
    rw [a1, a3]
    rcases a2 with rfl | rfl
    · rw [if_neg (by decide)]; exact fin _ rfl
    · rw [if_pos (by decide)]; exact fin _ rfl
theorem e_tests (hd : d < 7) {v : Fn} (hv : fc f = some v) (H : RFr e h d f) : ∃ h', g_X12_tests h 139 (nI d) = some h' ∧ h'.1 154 d = fv f v e ∧ h'.1 157 d = 0 ∧ h'.1 158 d = 0 ∧ h'.1 159 d = 20 ∧ h'.1 161 d = 0 ∧ h'.1 162 d = h.1 162 d ∧ zsm (ADd d) h h' := by
  obtain ⟨hs, e1, k1, k2, w1⟩ := e_sums hd hv H
  obtain ⟨h1, h2, h3, h4, h5⟩ := H
  have w1' : zsm (ADd d) h hs := w1.mono (fun a k z => by unfold ADd; omega)
  have r154 : hs.1 154 d = h.1 154 d := (w1 _ _ (by omega)).1
  have r155 : hs.1 155 d = h.1 155 d := (w1 _ _ (by omega)).1
  have r156 : hs.1 156 d = h.1 156 d := (w1 _ _ (by omega)).1
  have r157 : hs.1 157 d = h.1 157 d := (w1 _ _ (by omega)).1
  have zd : zin (nI d) 7 = true := zin_t hd (by omega)
  have xd : zx (nI d) = d := zx_nI (by omega)
  have f136 : ∀ x2 : Int32, x2 = fv f v e → ∃ h', g_X12_tests_136 139 (nI d) x2 hs = some h' ∧ h'.1 154 d = fv f v e ∧ h'.1 157 d = 0 ∧ h'.1 158 d = 0 ∧ h'.1 159 d = 20 ∧ h'.1 161 d = 0 ∧ h'.1 162 d = h.1 162 d ∧ zsm (ADd d) h h' := by
    intro x2 hx
    refine ⟨zpi (zpi (zpi (zpi hs 154 d x2) 157 d 0) 158 d 0) 159 d 20, ?_, ?_, ?_, ?_, ?_, ?_, ?_, w1'.tr ((((zsm.pi (A := ADd d) (by unfold ADd; omega)).tr (zsm.pi (A := ADd d) (by unfold ADd; omega))).tr (zsm.pi (A := ADd d) (by unfold ADd; omega))).tr (zsm.pi (A := ADd d) (by unfold ADd; omega)))⟩
    · unfold g_X12_tests_136
      simp only [zr_0_0, zr_0_1, zr_0_2, zr_0_3, zr_0_4, zr_0_5, zr_0_6, zr_0_7, zr_0_8, zr_1_0, zr_3_0, zr_3_1, zr_3_2, zr_3_3, zr_3_4, zr_3_5, zr_3_6, zr_10_0, zr_10_1, zr_13_0, zr_13_1, zr_13_4, zr_14_0, zr_14_1, zr_14_2, zr_14_3, zr_14_4, zr_14_5, zr_14_6, zr_21_0, zr_21_1, zr_24_0, zr_24_1, zr_24_2, zr_26_0, zr_26_1, zr_26_4, zr_27_0, zr_37_0, zr_37_1, zr_38_0, zr_44_0, zr_44_1, zr_44_2, zr_44_3, zr_45_0, zr_45_1, zr_52_0, zr_52_1, zr_59_0, zr_59_1, zr_66_0, zr_66_1, zr_73_0, zr_74_0, zr_74_1, zr_74_2, zr_74_3, zr_74_4, zr_74_5, zr_74_6, zr_74_7, zr_74_8, zr_74_9, zr_74_10, zr_74_11, zr_74_12, zr_74_13, zr_74_14, zr_74_15, zr_139_2, zr_139_10, zr_139_11, zr_139_12, zr_139_13, zr_139_14, zr_139_15, zr_139_16, zr_139_17, zr_139_18, zr_139_19, zr_139_20, zr_139_23, zr_139_24, zr_139_25, zr_139_26, zr_139_27, zr_139_28, zr_139_29, zr_139_30, zr_139_31, zr_139_32, zr_139_33, zr_139_34, zr_139_37, zr_139_38, zr_139_39, zr_139_40, zr_139_41, zr_139_42, zr_139_43, zr_139_44, zr_139_45, zr_139_46, zr_139_47, zr_139_48, zr_139_50, zd, xd, zgu_t, zlet_e]
    · rw [zpi_r, if_neg (by omega), zpi_r, if_neg (by omega), zpi_r, if_neg (by omega), zpi_r, if_pos ⟨rfl, rfl⟩]; exact hx
    · rw [zpi_r, if_neg (by omega), zpi_r, if_neg (by omega), zpi_r, if_pos ⟨rfl, rfl⟩]
    · rw [zpi_r, if_neg (by omega), zpi_r, if_pos ⟨rfl, rfl⟩]
    · rw [zpi_r, if_pos ⟨rfl, rfl⟩]
    · rw [zpi_r, if_neg (by omega), zpi_r, if_neg (by omega), zpi_r, if_neg (by omega), zpi_r, if_neg (by omega)]; exact k2
    · rw [zpi_r, if_neg (by omega), zpi_r, if_neg (by omega), zpi_r, if_neg (by omega), zpi_r, if_neg (by omega)]; exact (w1 _ _ (by omega)).1
  have f76 : ∀ x2 : Int32, x2 = co (fA f) (co (fS f) (pr (fp f) v)) e → ∃ h', g_X12_tests_76 139 (nI d) x2 hs = some h' ∧ h'.1 154 d = fv f v e ∧ h'.1 157 d = 0 ∧ h'.1 158 d = 0 ∧ h'.1 159 d = 20 ∧ h'.1 161 d = 0 ∧ h'.1 162 d = h.1 162 d ∧ zsm (ADd d) h h' := by
    intro x2 hx
    unfold g_X12_tests_76 g_X12_tests_104 g_X12_tests_105 g_X12_tests_106 g_X12_tests_130 g_X12_tests_135
    simp only [zr_0_0, zr_0_1, zr_0_2, zr_0_3, zr_0_4, zr_0_5, zr_0_6, zr_0_7, zr_0_8, zr_1_0, zr_3_0, zr_3_1, zr_3_2, zr_3_3, zr_3_4, zr_3_5, zr_3_6, zr_10_0, zr_10_1, zr_13_0, zr_13_1, zr_13_4, zr_14_0, zr_14_1, zr_14_2, zr_14_3, zr_14_4, zr_14_5, zr_14_6, zr_21_0, zr_21_1, zr_24_0, zr_24_1, zr_24_2, zr_26_0, zr_26_1, zr_26_4, zr_27_0, zr_37_0, zr_37_1, zr_38_0, zr_44_0, zr_44_1, zr_44_2, zr_44_3, zr_45_0, zr_45_1, zr_52_0, zr_52_1, zr_59_0, zr_59_1, zr_66_0, zr_66_1, zr_73_0, zr_74_0, zr_74_1, zr_74_2, zr_74_3, zr_74_4, zr_74_5, zr_74_6, zr_74_7, zr_74_8, zr_74_9, zr_74_10, zr_74_11, zr_74_12, zr_74_13, zr_74_14, zr_74_15, zr_139_2, zr_139_10, zr_139_11, zr_139_12, zr_139_13, zr_139_14, zr_139_15, zr_139_16, zr_139_17, zr_139_18, zr_139_19, zr_139_20, zr_139_23, zr_139_24, zr_139_25, zr_139_26, zr_139_27, zr_139_28, zr_139_29, zr_139_30, zr_139_31, zr_139_32, zr_139_33, zr_139_34, zr_139_37, zr_139_38, zr_139_39, zr_139_40, zr_139_41, zr_139_42, zr_139_43, zr_139_44, zr_139_45, zr_139_46, zr_139_47, zr_139_48, zr_139_50, zd, xd, zgu_t]
    rw [r154, r155]
    cases hK : fK f with
    | none =>
      rw [hK] at h1
      have h1 : h.1 155 d = 0 := h1
      simp only [h1]
      rw [if_neg (by decide), if_neg (by decide)]
      refine f136 x2 ?_
      unfold fv; rw [hK]; exact hx
    | some q =>
      obtain ⟨op, g⟩ := q
      rw [hK] at h1
      obtain ⟨a1, a2, a3⟩ := h1
      have ef : fv f v e = jn op (g e) x2 := by unfold fv; rw [hK, hx]; rfl
      rw [a1, a3]
      rcases a2 with rfl | rfl
      · have c1 : nI (rcd 36) = (26 : Int32) := rfl
        have c2 : ¬ (26 : Int32) = 27 := by decide
        simp only [c1, if_true, if_neg c2]
        by_cases g0 : g e = 0
        · rw [if_pos g0]
          exact f136 0 (by rw [ef]; simp [jn, g0])
        · rw [if_neg g0]
          by_cases x0 : x2 = 0
          · rw [if_pos x0]
            exact f136 0 (by rw [ef]; simp [jn, x0])
          · rw [if_neg x0]
            exact f136 1 (by rw [ef]; simp [jn, g0, x0])
      · have c1 : nI (rcd 37) = (27 : Int32) := rfl
        have c2 : ¬ (27 : Int32) = 26 := by decide
        simp only [c1, if_true, if_neg c2]
        by_cases g0 : g e = 0
        · rw [if_pos g0]
          by_cases x0 : x2 = 0
          · rw [if_pos x0]
            exact f136 0 (by rw [ef]; simp [jn, g0, x0])
          · rw [if_neg x0]
            exact f136 1 (by rw [ef]; simp [jn, g0, x0])
        · rw [if_neg g0]
          exact f136 1 (by rw [ef]; simp [jn, g0])
  unfold g_X12_tests
  rw [e1, zbind_s]
  unfold g_X12_tests_43 g_X12_tests_44 g_X12_tests_75
  simp only [zr_0_0, zr_0_1, zr_0_2, zr_0_3, zr_0_4, zr_0_5, zr_0_6, zr_0_7, zr_0_8, zr_1_0, zr_3_0, zr_3_1, zr_3_2, zr_3_3, zr_3_4, zr_3_5, zr_3_6, zr_10_0, zr_10_1, zr_13_0, zr_13_1, zr_13_4, zr_14_0, zr_14_1, zr_14_2, zr_14_3, zr_14_4, zr_14_5, zr_14_6, zr_21_0, zr_21_1, zr_24_0, zr_24_1, zr_24_2, zr_26_0, zr_26_1, zr_26_4, zr_27_0, zr_37_0, zr_37_1, zr_38_0, zr_44_0, zr_44_1, zr_44_2, zr_44_3, zr_45_0, zr_45_1, zr_52_0, zr_52_1, zr_59_0, zr_59_1, zr_66_0, zr_66_1, zr_73_0, zr_74_0, zr_74_1, zr_74_2, zr_74_3, zr_74_4, zr_74_5, zr_74_6, zr_74_7, zr_74_8, zr_74_9, zr_74_10, zr_74_11, zr_74_12, zr_74_13, zr_74_14, zr_74_15, zr_139_2, zr_139_10, zr_139_11, zr_139_12, zr_139_13, zr_139_14, zr_139_15, zr_139_16, zr_139_17, zr_139_18, zr_139_19, zr_139_20, zr_139_23, zr_139_24, zr_139_25, zr_139_26, zr_139_27, zr_139_28, zr_139_29, zr_139_30, zr_139_31, zr_139_32, zr_139_33, zr_139_34, zr_139_37, zr_139_38, zr_139_39, zr_139_40, zr_139_41, zr_139_42, zr_139_43, zr_139_44, zr_139_45, zr_139_46, zr_139_47, zr_139_48, zr_139_50, zd, xd, zgu_t, zlet_e]
  rw [k1, r156, r157]
  cases hA : fA f with
  | none =>
    rw [hA] at h2
    have h2 : h.1 157 d = 0 := h2
    rw [h2, if_neg (by decide), if_neg (by decide)]
    exact f76 _ (by rw [hA]; rfl)
  | some q =>
    obtain ⟨op, g⟩ := q
    rw [hA] at h2
    obtain ⟨a1, a2, a3⟩ := h2
    rw [a1, a3]
    rcases a2 with rfl | rfl
    · have c1 : nI (rcd 6) = (24 : Int32) := rfl
      have c2 : ¬ (24 : Int32) = 25 := by decide
      simp only [c1, if_true, if_neg c2]
      by_cases g0 : co (fS f) (pr (fp f) v) e ≤ g e
      · rw [if_pos g0]
        exact f76 0 (by rw [hA]; simp [co, jn] at g0 ⊢; simp [g0])
      · rw [if_neg g0]
        exact f76 1 (by rw [hA]; simp only [co, jn] at g0 ⊢; simp [g0])
    · have c1 : nI (rcd 7) = (25 : Int32) := rfl
      have c2 : ¬ (25 : Int32) = 24 := by decide
      simp only [c1, if_true, if_neg c2]
      by_cases g0 : g e = co (fS f) (pr (fp f) v) e
      · rw [if_pos g0]
        exact f76 1 (by rw [hA]; simp only [co, jn] at g0 ⊢; simp [g0])
      · rw [if_neg g0]
        exact f76 0 (by rw [hA]; simp only [co, jn] at g0 ⊢; simp [g0])
/-- the part v comes: those that deny it are gone through -/
def prt (v : Fn) : List Fr → List Fr
  | [] => []
  | f :: r => if fm f = 1 then prt (fun e => nt (v e)) r else (fm f, fK f, fA f, fS f, fp f, some v) :: r
def wnt : List Fr → Prop
  | [] => False
  | f :: _ => fc f = none
def okF : List Fr → Prop
  | [] => False
  | f :: r => (if r = [] then fm f = 0 else (fm f = 1 ∨ fm f = 2) ∧ okF r ∧ wnt r) ∧ (fm f = 1 → fK f = none ∧ fA f = none ∧ fS f = none ∧ fp f = none)
theorem prt_ok : ∀ (r : List Fr) (v : Fn), okF r → okF (prt v r) ∧ (prt v r).length ≤ r.length := by
  intro r
  induction r with
  | nil => intro v H; exact H.elim
  | cons f r ih =>
    intro v H
    obtain ⟨H1, H2⟩ := H
    rw [prt]
    by_cases c : fm f = 1
    · rw [if_pos c]
      by_cases cr : r = []
      · rw [if_pos cr] at H1; omega
      · rw [if_neg cr] at H1
        obtain ⟨a, b⟩ := ih (fun e => nt (v e)) H1.2.1
        exact ⟨a, by simp only [List.length_cons]; omega⟩
    · rw [if_neg c]
      exact ⟨⟨H1, fun z => absurd z c⟩, by simp⟩
theorem e_prt {k14 : Int32 → Int32 → Int32 → zH → Option (Int32 × zH)} {x1 : Int32} {x3 : Nat} : ∀ (r : List Fr) (v : Fn) (n : Nat) (h : zH), okF r → wnt r → r.length ≤ 6 → r.length ≤ n → rf e h r → ∃ h', g_X12_worked_268 139 k14 n x1 (nI (r.length - 1)) (nI x3) (v e) h = k14 x1 (nI ((prt v r).length - 1)) (nI (x3 + 1)) h' ∧ rf e h' (prt v r) ∧ zsm ADw h h' := by
  intro r
  induction r with
  | nil => intro v n h H; exact H.elim
  | cons f r ih =>
    intro v n h H W hl hn R
    obtain ⟨H1, H2⟩ := H
    obtain ⟨n, rfl⟩ : ∃ m, n = m + 1 := ⟨n - 1, by simp only [List.length_cons] at hn; omega⟩
    simp only [List.length_cons] at hl hn
    have hlen : (f :: r).length - 1 = r.length := by simp
    obtain ⟨R1, R2⟩ := R
    have set : ¬ fm f = 1 → ∃ h', g_X12_worked_300 139 k14 x1 (nI r.length) (nI x3) (v e) h = k14 x1 (nI r.length) (nI (x3 + 1)) h' ∧ rf e h' ((fm f, fK f, fA f, fS f, fp f, some v) :: r) ∧ zsm ADw h h' := by
      intro _
      have W : fc f = none := W
      obtain ⟨q1, q2, q3, q4, q5⟩ := R1
      rw [W] at q4
      have fin : ∀ s : Int32, s = pr (fp f) v e → ∃ h', g_X12_worked_328 139 k14 x1 (nI r.length) (nI x3) s (nI r.length) h = k14 x1 (nI r.length) (nI (x3 + 1)) h' ∧ rf e h' ((fm f, fK f, fA f, fS f, fp f, some v) :: r) ∧ zsm ADw h h' := by
        intro s hs
        have w : zsm (ADd r.length) h (zpi h 160 r.length s) := zsm.pi (by unfold ADd; omega)
        refine ⟨zpi h 160 r.length s, ?_, ⟨?_, rf_low R2 w (Nat.le_refl _)⟩, w.mono (fun a k z => by unfold ADd at z; unfold ADw; omega)⟩
        · unfold g_X12_worked_328
          rw [zin_t (by omega) (by omega), zgu_t, zx_nI (by omega)]
          simp only [zr_0_0, zr_0_1, zr_0_2, zr_0_3, zr_0_4, zr_0_5, zr_0_6, zr_0_7, zr_0_8, zr_1_0, zr_3_0, zr_3_1, zr_3_2, zr_3_3, zr_3_4, zr_3_5, zr_3_6, zr_10_0, zr_10_1, zr_13_0, zr_13_1, zr_13_4, zr_14_0, zr_14_1, zr_14_2, zr_14_3, zr_14_4, zr_14_5, zr_14_6, zr_21_0, zr_21_1, zr_24_0, zr_24_1, zr_24_2, zr_26_0, zr_26_1, zr_26_4, zr_27_0, zr_37_0, zr_37_1, zr_38_0, zr_44_0, zr_44_1, zr_44_2, zr_44_3, zr_45_0, zr_45_1, zr_52_0, zr_52_1, zr_59_0, zr_59_1, zr_66_0, zr_66_1, zr_73_0, zr_74_0, zr_74_1, zr_74_2, zr_74_3, zr_74_4, zr_74_5, zr_74_6, zr_74_7, zr_74_8, zr_74_9, zr_74_10, zr_74_11, zr_74_12, zr_74_13, zr_74_14, zr_74_15, zr_139_2, zr_139_10, zr_139_11, zr_139_12, zr_139_13, zr_139_14, zr_139_15, zr_139_16, zr_139_17, zr_139_18, zr_139_19, zr_139_20, zr_139_23, zr_139_24, zr_139_25, zr_139_26, zr_139_27, zr_139_28, zr_139_29, zr_139_30, zr_139_31, zr_139_32, zr_139_33, zr_139_34, zr_139_37, zr_139_38, zr_139_39, zr_139_40, zr_139_41, zr_139_42, zr_139_43, zr_139_44, zr_139_45, zr_139_46, zr_139_47, zr_139_48, zr_139_50, zlet_e]
          rw [nI_1]
        · have nn : ∀ a, ¬ a = 160 → (zpi h 160 r.length s).1 a r.length = h.1 a r.length := fun a ha => by rw [zpi_r, if_neg (fun z => ha z.1)]
          refine ⟨?_, ?_, ?_, ?_, fun z => by rw [nn 162 (by omega)]; exact q5 z⟩
          · show (match fK f with | none => _ | some (op, g) => _)
            cases hK : fK f with
            | none => rw [hK] at q1; show _ = _; rw [nn 155 (by omega)]; exact q1
            | some q => rw [hK] at q1; exact ⟨by rw [nn 155 (by omega)]; exact q1.1, q1.2.1, by rw [nn 154 (by omega)]; exact q1.2.2⟩
          · show (match fA f with | none => _ | some (op, g) => _)
            cases hK : fA f with
            | none => rw [hK] at q2; show _ = _; rw [nn 157 (by omega)]; exact q2
            | some q => rw [hK] at q2; exact ⟨by rw [nn 157 (by omega)]; exact q2.1, q2.2.1, by rw [nn 156 (by omega)]; exact q2.2.2⟩
          · show (match fS f with | none => _ | some (op, g) => _)
            cases hK : fS f with
            | none => rw [hK] at q3; exact ⟨by rw [nn 158 (by omega)]; exact q3.1, by rw [nn 159 (by omega)]; exact q3.2⟩
            | some q => rw [hK] at q3; exact ⟨by rw [nn 159 (by omega)]; exact q3.1, q3.2.1, by rw [nn 158 (by omega)]; exact q3.2.2⟩
          · show (zpi h 160 r.length s).1 160 r.length = pr (fp f) v e
            rw [zpi_r, if_pos ⟨rfl, rfl⟩]; exact hs
      unfold g_X12_worked_300
      rw [zin_t (by omega) (by omega), zgu_t, zgu_t, zx_nI (by omega)]
      simp only [zr_0_0, zr_0_1, zr_0_2, zr_0_3, zr_0_4, zr_0_5, zr_0_6, zr_0_7, zr_0_8, zr_1_0, zr_3_0, zr_3_1, zr_3_2, zr_3_3, zr_3_4, zr_3_5, zr_3_6, zr_10_0, zr_10_1, zr_13_0, zr_13_1, zr_13_4, zr_14_0, zr_14_1, zr_14_2, zr_14_3, zr_14_4, zr_14_5, zr_14_6, zr_21_0, zr_21_1, zr_24_0, zr_24_1, zr_24_2, zr_26_0, zr_26_1, zr_26_4, zr_27_0, zr_37_0, zr_37_1, zr_38_0, zr_44_0, zr_44_1, zr_44_2, zr_44_3, zr_45_0, zr_45_1, zr_52_0, zr_52_1, zr_59_0, zr_59_1, zr_66_0, zr_66_1, zr_73_0, zr_74_0, zr_74_1, zr_74_2, zr_74_3, zr_74_4, zr_74_5, zr_74_6, zr_74_7, zr_74_8, zr_74_9, zr_74_10, zr_74_11, zr_74_12, zr_74_13, zr_74_14, zr_74_15, zr_139_2, zr_139_10, zr_139_11, zr_139_12, zr_139_13, zr_139_14, zr_139_15, zr_139_16, zr_139_17, zr_139_18, zr_139_19, zr_139_20, zr_139_23, zr_139_24, zr_139_25, zr_139_26, zr_139_27, zr_139_28, zr_139_29, zr_139_30, zr_139_31, zr_139_32, zr_139_33, zr_139_34, zr_139_37, zr_139_38, zr_139_39, zr_139_40, zr_139_41, zr_139_42, zr_139_43, zr_139_44, zr_139_45, zr_139_46, zr_139_47, zr_139_48, zr_139_50]
      cases hp : fp f with
      | none =>
        rw [hp] at q4 fin
        have q4 : h.1 161 r.length = 0 := q4
        rw [if_pos q4]
        exact fin _ rfl
      | some u =>
        rw [hp] at q4 fin
        obtain ⟨q6, q7⟩ := q4
        rw [q6, if_neg (by decide), q7]
        exact fin _ rfl
    rw [hlen, prt, g_X12_worked_268]
    by_cases cr : r = []
    · subst cr
      rw [if_pos rfl] at H1
      have c : ¬ fm f = 1 := by omega
      rw [if_pos (by decide), if_neg c]
      exact set c
    · rw [if_neg cr] at H1
      have hr1 : 1 ≤ r.length := by
        cases r with
        | nil => exact absurd rfl cr
        | cons _ _ => simp
      have q5 := R1.2.2.2.2 (by omega)
      rw [if_neg (by rw [zleR_0 (by omega)]; omega), zin_t (by omega) (by omega), zgu_t, zx_nI (by omega)]
      simp only [zr_0_0, zr_0_1, zr_0_2, zr_0_3, zr_0_4, zr_0_5, zr_0_6, zr_0_7, zr_0_8, zr_1_0, zr_3_0, zr_3_1, zr_3_2, zr_3_3, zr_3_4, zr_3_5, zr_3_6, zr_10_0, zr_10_1, zr_13_0, zr_13_1, zr_13_4, zr_14_0, zr_14_1, zr_14_2, zr_14_3, zr_14_4, zr_14_5, zr_14_6, zr_21_0, zr_21_1, zr_24_0, zr_24_1, zr_24_2, zr_26_0, zr_26_1, zr_26_4, zr_27_0, zr_37_0, zr_37_1, zr_38_0, zr_44_0, zr_44_1, zr_44_2, zr_44_3, zr_45_0, zr_45_1, zr_52_0, zr_52_1, zr_59_0, zr_59_1, zr_66_0, zr_66_1, zr_73_0, zr_74_0, zr_74_1, zr_74_2, zr_74_3, zr_74_4, zr_74_5, zr_74_6, zr_74_7, zr_74_8, zr_74_9, zr_74_10, zr_74_11, zr_74_12, zr_74_13, zr_74_14, zr_74_15, zr_139_2, zr_139_10, zr_139_11, zr_139_12, zr_139_13, zr_139_14, zr_139_15, zr_139_16, zr_139_17, zr_139_18, zr_139_19, zr_139_20, zr_139_23, zr_139_24, zr_139_25, zr_139_26, zr_139_27, zr_139_28, zr_139_29, zr_139_30, zr_139_31, zr_139_32, zr_139_33, zr_139_34, zr_139_37, zr_139_38, zr_139_39, zr_139_40, zr_139_41, zr_139_42, zr_139_43, zr_139_44, zr_139_45, zr_139_46, zr_139_47, zr_139_48, zr_139_50]
      by_cases c : fm f = 1
      · rw [if_pos c] at q5
        rw [if_pos c, if_pos q5]
        have em : nI r.length + (-1) = nI (r.length - 1) := by
          rw [← nI_s1 hr1]
          apply Int32.toBitVec_inj.mp
          rw [Int32.toBitVec_add, Int32.toBitVec_sub]
          rw [BitVec.sub_eq_add_neg]; rfl
        obtain ⟨h2, e2, R3, w3⟩ := ih (fun e => nt (v e)) n h H1.2.1 H1.2.2 (by omega) (by omega) R2
        refine ⟨h2, ?_, R3, w3⟩
        rw [em]
        have e2' := e2
        simp only [nt] at e2'
        by_cases v0 : v e = 0
        · rw [if_pos v0]; rw [if_pos v0] at e2'; exact e2'
        · rw [if_neg v0]; rw [if_neg v0] at e2'; exact e2'
      · rw [if_neg c] at q5
        rw [if_neg c, if_neg (by rw [q5]; decide)]
        exact set c
end L4
