/-! laws: the reference's code, run to its end -/
def IN (rc : List Int32) (fs : List Fr) : Prop := okF fs ∧ fs.length ≤ 6 ∧ (rc = [] → wnt fs) ∧ ∀ (h : zH) (x1 b n E : Nat), x1 < 2 → (∀ j, j < rc.length → h.1 151 (b + j) = rc.getD j 0) → b + rc.length ≤ E → E ≤ 1000 → h.1 150 x1 = nI E → rf (evM h) h [(0, none, none, none, none, none)] → ∃ h', g_X12_worked_14 139 (n + rc.length) (nI x1) 0 (nI b) h = g_X12_worked_14 139 n (nI x1) (nI (fs.length - 1)) (nI (b + rc.length)) h' ∧ rf (evM h) h' fs ∧ zsm ADw h h'
section L5
variable {h h' : zH} {A : Nat → Nat → Prop} {e : Ev} {d : Nat} {f : Fr} {fs r : List Fr} {rc : List Int32}
theorem IN.nil : IN [] [(0, none, none, none, none, none)] := ⟨⟨by simp, fun z => by cases z⟩, by simp, fun _ => rfl, fun h x1 b n E _ _ _ _ _ H => ⟨h, rfl, H, zsm.rf⟩⟩
theorem IN.ne (H : IN rc [f]) {v : Fn} (hv : fc f = some v) : 0 < rc.length := by
  cases rc with
  | nil => have h1 : fc f = none := H.2.2.1 rfl
           rw [h1] at hv; cases hv
  | cons _ _ => simp
theorem IN.snoc {fs' : List Fr} (H : IN rc fs) (c : Int32) (ok : okF fs') (hl : fs'.length ≤ 6) (K : ∀ (h : zH) (x1 x n E : Nat), x1 < 2 → x < E → E ≤ 1000 → h.1 150 x1 = nI E → h.1 151 x = c → rf (evM h) h fs → ∃ h', g_X12_worked_14 139 (n + 1) (nI x1) (nI (fs.length - 1)) (nI x) h = g_X12_worked_14 139 n (nI x1) (nI (fs'.length - 1)) (nI (x + 1)) h' ∧ rf (evM h) h' fs' ∧ zsm ADw h h') : IN (rc ++ [c]) fs' := by
  refine ⟨ok, hl, fun z => by simp at z, fun h x1 b n E hx hc he h1000 h0 h9 => ?_⟩
  have hlen : (rc ++ [c]).length = rc.length + 1 := by simp
  rw [hlen] at hc he
  obtain ⟨h1, e1, k1, w1⟩ := H.2.2.2 h x1 b (n + 1) E hx (fun j hj => by
    rw [hc j (by omega), List.getD_eq_getElem?_getD, List.getElem?_append_left hj, ← List.getD_eq_getElem?_getD]) (by omega) h1000 h0 h9
  have ee : evM h1 = evM h := by
    unfold evM
    rw [(w1 163 1 (by unfold ADw; omega)).1, (w1 163 2 (by unfold ADw; omega)).1, (w1 163 3 (by unfold ADw; omega)).1, (w1 163 4 (by unfold ADw; omega)).1]
  obtain ⟨h2, e2, k2, w2⟩ := K h1 x1 (b + rc.length) n E hx (by omega) h1000 (by rw [(w1 150 x1 (by unfold ADw; omega)).1]; exact h0) (by
    rw [(w1 151 _ (by unfold ADw; omega)).1, hc rc.length (by omega), List.getD_eq_getElem?_getD, List.getElem?_append_right (Nat.le_refl _)]; simp) (by rw [ee]; exact k1)
  rw [ee] at k2
  refine ⟨h2, ?_, k2, w1.tr w2⟩
  rw [hlen, show n + (rc.length + 1) = n + 1 + rc.length by omega, e1, e2]; rfl
/-- one turn: the code c at x is looked at -/
theorem w14 {x1 x n E : Nat} (hx1 : x1 < 2) (hx : x < E) (hE : E ≤ 1000) (h0 : h.1 150 x1 = nI E) {x2 c : Int32} (hc : h.1 151 x = c) : g_X12_worked_14 139 (n + 1) (nI x1) x2 (nI x) h = (if c = 28 then (g_X12_worked_46 139 (g_X12_worked_14 139 n) (nI x1) x2 (nI x) c h) else (if c = 30 then (g_X12_worked_46 139 (g_X12_worked_14 139 n) (nI x1) x2 (nI x) c h) else (if c = 20 then (g_X12_worked_89 139 (g_X12_worked_14 139 n) (nI x1) x2 (nI x) c h) else (if c = 21 then (g_X12_worked_89 139 (g_X12_worked_14 139 n) (nI x1) x2 (nI x) c h) else (if c = 22 then (zgu (zin x2 7) <| zlet (zpi h 161 (zx x2) c) fun h_23 => g_X12_worked_14 139 n (nI x1) x2 (nI (x + 1)) h_23) else (if c = 24 then (g_X12_worked_137 139 (g_X12_worked_14 139 n) (nI x1) x2 (nI x) c h) else (if c = 25 then (g_X12_worked_137 139 (g_X12_worked_14 139 n) (nI x1) x2 (nI x) c h) else (if c = 26 then (g_X12_worked_194 139 (g_X12_worked_14 139 n) (nI x1) x2 (nI x) c h) else (if c = 27 then (g_X12_worked_194 139 (g_X12_worked_14 139 n) (nI x1) x2 (nI x) c h) else (if c < 100 then (if 20 ≤ c then (g_X12_worked_243 139 (g_X12_worked_14 139 n) (nI x1) x2 (nI x) c 0 h) else (zgu (zin c 20) <| g_X12_worked_243 139 (g_X12_worked_14 139 n) (nI x1) x2 (nI x) c (h.1 163 (zx c)) h)) else (g_X12_worked_243 139 (g_X12_worked_14 139 n) (nI x1) x2 (nI x) c (c - 100) h))))))))))) := by
  rw [g_X12_worked_14, zin_t (by omega) (by omega), zgu_t, zx_nI (by omega)]
  simp only [zr_0_0, zr_0_1, zr_0_2, zr_0_3, zr_0_4, zr_0_5, zr_0_6, zr_0_7, zr_0_8, zr_1_0, zr_3_0, zr_3_1, zr_3_2, zr_3_3, zr_3_4, zr_3_5, zr_3_6, zr_10_0, zr_10_1, zr_13_0, zr_13_1, zr_13_4, zr_14_0, zr_14_1, zr_14_2, zr_14_3, zr_14_4, zr_14_5, zr_14_6, zr_21_0, zr_21_1, zr_24_0, zr_24_1, zr_24_2, zr_26_0, zr_26_1, zr_26_4, zr_27_0, zr_37_0, zr_37_1, zr_38_0, zr_44_0, zr_44_1, zr_44_2, zr_44_3, zr_45_0, zr_45_1, zr_52_0, zr_52_1, zr_59_0, zr_59_1, zr_66_0, zr_66_1, zr_73_0, zr_74_0, zr_74_1, zr_74_2, zr_74_3, zr_74_4, zr_74_5, zr_74_6, zr_74_7, zr_74_8, zr_74_9, zr_74_10, zr_74_11, zr_74_12, zr_74_13, zr_74_14, zr_74_15, zr_139_2, zr_139_10, zr_139_11, zr_139_12, zr_139_13, zr_139_14, zr_139_15, zr_139_16, zr_139_17, zr_139_18, zr_139_19, zr_139_20, zr_139_23, zr_139_24, zr_139_25, zr_139_26, zr_139_27, zr_139_28, zr_139_29, zr_139_30, zr_139_31, zr_139_32, zr_139_33, zr_139_34, zr_139_37, zr_139_38, zr_139_39, zr_139_40, zr_139_41, zr_139_42, zr_139_43, zr_139_44, zr_139_45, zr_139_46, zr_139_47, zr_139_48, zr_139_50]
  rw [h0, if_neg (by rw [znI_le (by omega) (by omega)]; omega), zin_t (by omega) (by omega), zgu_t, zx_nI (by omega), hc, zlet_e, nI_1]
theorem e_opens (hd : d < 7) : ∃ h', g_X12_opens h 139 (nI d) = some h' ∧ h'.1 155 d = 0 ∧ h'.1 157 d = 0 ∧ h'.1 158 d = 0 ∧ h'.1 159 d = 20 ∧ h'.1 161 d = 0 ∧ h'.1 162 d = h.1 162 d ∧ zsm (ADd d) h h' := by
  refine ⟨zpi (zpi (zpi (zpi (zpi h 155 d 0) 157 d 0) 158 d 0) 159 d 20) 161 d 0, ?_, ?_, ?_, ?_, ?_, ?_, ?_, ((((zsm.pi (A := ADd d) (by unfold ADd; omega)).tr (zsm.pi (A := ADd d) (by unfold ADd; omega))).tr (zsm.pi (A := ADd d) (by unfold ADd; omega))).tr (zsm.pi (A := ADd d) (by unfold ADd; omega))).tr (zsm.pi (A := ADd d) (by unfold ADd; omega))⟩
  · unfold g_X12_opens
    rw [zin_t hd (by omega), zx_nI (by omega)]
    simp only [zr_0_0, zr_0_1, zr_0_2, zr_0_3, zr_0_4, zr_0_5, zr_0_6, zr_0_7, zr_0_8, zr_1_0, zr_3_0, zr_3_1, zr_3_2, zr_3_3, zr_3_4, zr_3_5, zr_3_6, zr_10_0, zr_10_1, zr_13_0, zr_13_1, zr_13_4, zr_14_0, zr_14_1, zr_14_2, zr_14_3, zr_14_4, zr_14_5, zr_14_6, zr_21_0, zr_21_1, zr_24_0, zr_24_1, zr_24_2, zr_26_0, zr_26_1, zr_26_4, zr_27_0, zr_37_0, zr_37_1, zr_38_0, zr_44_0, zr_44_1, zr_44_2, zr_44_3, zr_45_0, zr_45_1, zr_52_0, zr_52_1, zr_59_0, zr_59_1, zr_66_0, zr_66_1, zr_73_0, zr_74_0, zr_74_1, zr_74_2, zr_74_3, zr_74_4, zr_74_5, zr_74_6, zr_74_7, zr_74_8, zr_74_9, zr_74_10, zr_74_11, zr_74_12, zr_74_13, zr_74_14, zr_74_15, zr_139_2, zr_139_10, zr_139_11, zr_139_12, zr_139_13, zr_139_14, zr_139_15, zr_139_16, zr_139_17, zr_139_18, zr_139_19, zr_139_20, zr_139_23, zr_139_24, zr_139_25, zr_139_26, zr_139_27, zr_139_28, zr_139_29, zr_139_30, zr_139_31, zr_139_32, zr_139_33, zr_139_34, zr_139_37, zr_139_38, zr_139_39, zr_139_40, zr_139_41, zr_139_42, zr_139_43, zr_139_44, zr_139_45, zr_139_46, zr_139_47, zr_139_48, zr_139_50, zgu_t, zlet_e]
  · rw [zpi_r, if_neg (by omega), zpi_r, if_neg (by omega), zpi_r, if_neg (by omega), zpi_r, if_neg (by omega), zpi_r, if_pos ⟨rfl, rfl⟩]
  · rw [zpi_r, if_neg (by omega), zpi_r, if_neg (by omega), zpi_r, if_neg (by omega), zpi_r, if_pos ⟨rfl, rfl⟩]
  · rw [zpi_r, if_neg (by omega), zpi_r, if_neg (by omega), zpi_r, if_pos ⟨rfl, rfl⟩]
  · rw [zpi_r, if_neg (by omega), zpi_r, if_pos ⟨rfl, rfl⟩]
  · rw [zpi_r, if_pos ⟨rfl, rfl⟩]
  · rw [zpi_r, if_neg (by omega), zpi_r, if_neg (by omega), zpi_r, if_neg (by omega), zpi_r, if_neg (by omega), zpi_r, if_neg (by omega)]
/-- a bracket, or a not -/
theorem IN.brk (H : IN rc fs) (W : wnt fs) (hl : fs.length ≤ 5) {m : Nat} (hm : m = 1 ∨ m = 2) : IN (rc ++ [if m = 1 then 30 else 28]) ((m, none, none, none, none, none) :: fs) := by
  have hne : ¬ fs = [] := by intro z; subst z; exact W
  refine H.snoc _ ⟨by rw [if_neg hne]; exact ⟨hm, H.1, W⟩, fun _ => ⟨rfl, rfl, rfl, rfl⟩⟩ (by simp only [List.length_cons]; omega) (fun h x1 x n E hx1 hx hE h0 hc R => ?_)
  have h1 : 1 ≤ fs.length := by cases fs with
    | nil => exact absurd rfl hne
    | cons _ _ => simp
  have e1 : nI (fs.length - 1) + 1 = nI fs.length := by rw [nI_1, show fs.length - 1 + 1 = fs.length by omega]
  have w0 : zsm (ADd fs.length) h (zpi h 162 fs.length (if m = 1 then 1 else 0)) := zsm.pi (by unfold ADd; omega)
  obtain ⟨h2, e2, a1, a2, a3, a4, a5, a6, w2⟩ := e_opens (h := zpi h 162 fs.length (if m = 1 then 1 else 0)) (d := fs.length) (by omega)
  rw [zpi_r, if_pos ⟨rfl, rfl⟩] at a6
  refine ⟨h2, ?_, ⟨⟨a1, a2, ⟨a3, a4⟩, a5, fun _ => a6⟩, rf_low (rf_low R w0 (Nat.le_refl _)) w2 (Nat.le_refl _)⟩, (w0.tr w2).mono (fun a k z => by unfold ADd at z; unfold ADw; omega)⟩
  rw [w14 hx1 hx hE h0 hc]
  unfold g_X12_worked_46 g_X12_worked_66
  rw [e1, zin_t (by omega) (by omega), zx_nI (by omega)]
  simp only [zr_0_0, zr_0_1, zr_0_2, zr_0_3, zr_0_4, zr_0_5, zr_0_6, zr_0_7, zr_0_8, zr_1_0, zr_3_0, zr_3_1, zr_3_2, zr_3_3, zr_3_4, zr_3_5, zr_3_6, zr_10_0, zr_10_1, zr_13_0, zr_13_1, zr_13_4, zr_14_0, zr_14_1, zr_14_2, zr_14_3, zr_14_4, zr_14_5, zr_14_6, zr_21_0, zr_21_1, zr_24_0, zr_24_1, zr_24_2, zr_26_0, zr_26_1, zr_26_4, zr_27_0, zr_37_0, zr_37_1, zr_38_0, zr_44_0, zr_44_1, zr_44_2, zr_44_3, zr_45_0, zr_45_1, zr_52_0, zr_52_1, zr_59_0, zr_59_1, zr_66_0, zr_66_1, zr_73_0, zr_74_0, zr_74_1, zr_74_2, zr_74_3, zr_74_4, zr_74_5, zr_74_6, zr_74_7, zr_74_8, zr_74_9, zr_74_10, zr_74_11, zr_74_12, zr_74_13, zr_74_14, zr_74_15, zr_139_2, zr_139_10, zr_139_11, zr_139_12, zr_139_13, zr_139_14, zr_139_15, zr_139_16, zr_139_17, zr_139_18, zr_139_19, zr_139_20, zr_139_23, zr_139_24, zr_139_25, zr_139_26, zr_139_27, zr_139_28, zr_139_29, zr_139_30, zr_139_31, zr_139_32, zr_139_33, zr_139_34, zr_139_37, zr_139_38, zr_139_39, zr_139_40, zr_139_41, zr_139_42, zr_139_43, zr_139_44, zr_139_45, zr_139_46, zr_139_47, zr_139_48, zr_139_50, zgu_t, zlet_e]
  rcases hm with rfl | rfl
  · rw [if_pos rfl] at e2 ⊢
    rw [if_neg (by decide), if_pos rfl, if_pos rfl, e2, zbind_s, nI_1]; simp
  · have c1 : (if (2 : Nat) = 1 then (30 : Int32) else 28) = 28 := rfl
    have c0 : (if (2 : Nat) = 1 then (1 : Int32) else 0) = 0 := rfl
    rw [c0] at e2
    rw [c1, if_pos rfl, if_neg (by decide), e2, zbind_s, nI_1]; simp
theorem ok_set {f f' : Fr} {r : List Fr} (H : okF (f :: r)) (hm : fm f' = fm f) (h1 : ¬ fm f = 1) : okF (f' :: r) := by
  obtain ⟨H1, H2⟩ := H
  refine ⟨?_, fun z => absurd (hm ▸ z) h1⟩
  by_cases c : r = []
  · rw [if_pos c] at H1 ⊢; rw [hm]; exact H1
  · rw [if_neg c] at H1 ⊢; rw [hm]; exact H1
/-- times -/
theorem IN.mul (H : IN rc (f :: r)) (h1 : ¬ fm f = 1) {v : Fn} (hv : fc f = some v) : IN (rc ++ [22]) ((fm f, fK f, fA f, fS f, some (pr (fp f) v), none) :: r) := by
  have hl := H.2.1
  simp only [List.length_cons] at hl
  refine H.snoc _ (ok_set H.1 rfl h1) H.2.1 (fun h x1 x n E hx1 hx hE h0 hc R => ?_)
  obtain ⟨⟨q1, q2, q3, q4, q5⟩, R2⟩ := R
  rw [hv] at q4
  have q4 : h.1 160 r.length = pr (fp f) v (evM h) := q4
  have w : zsm (ADd r.length) h (zpi h 161 r.length 22) := zsm.pi (by unfold ADd; omega)
  have nn : ∀ a, ¬ a = 161 → (zpi h 161 r.length 22).1 a r.length = h.1 a r.length := fun a ha => by rw [zpi_r, if_neg (fun z => ha z.1)]
  refine ⟨zpi h 161 r.length 22, ?_, ⟨⟨?_, ?_, ?_, ⟨by rw [zpi_r, if_pos ⟨rfl, rfl⟩], by rw [nn 160 (by omega)]; exact q4⟩, fun z => by rw [nn 162 (by omega)]; exact q5 z⟩, rf_low R2 w (Nat.le_refl _)⟩, w.mono (fun a k z => by unfold ADd at z; unfold ADw; omega)⟩
  · rw [w14 hx1 hx hE h0 hc, if_neg (by decide), if_neg (by decide), if_neg (by decide), if_neg (by decide), if_pos rfl]
    have : (f :: r).length - 1 = r.length := by simp
    rw [this, zin_t (by omega) (by omega), zgu_t, zx_nI (by omega), zlet_e]; simp
  · show (match fK f with | none => _ | some (op, g) => _)
    cases hK : fK f with
    | none => rw [hK] at q1; show _ = _; rw [nn 155 (by omega)]; exact q1
    | some q => rw [hK] at q1; exact ⟨by rw [nn 155 (by omega)]; exact q1.1, q1.2.1, by rw [nn 154 (by omega)]; exact q1.2.2⟩
  · show (match fA f with | none => _ | some (op, g) => _)
    cases hK : fA f with
    | none => rw [hK] at q2; show _ = _; rw [nn 157 (by omega)]; exact q2
    | some q => rw [hK] at q2; exact ⟨by rw [nn 157 (by omega)]; exact q2.1, q2.2.1, by rw [nn 156 (by omega)]; exact q2.2.2⟩
  · show (match fS f with | none => _ | some (op, g) => _)
    cases hK : fS f with
    | none => rw [hK] at q3; exact ⟨by rw [nn 158 (by omega)]; exact q3.1, by rw [nn 159 (by omega)]; exact q3.2⟩
    | some q => rw [hK] at q3; exact ⟨by rw [nn 159 (by omega)]; exact q3.1, q3.2.1, by rw [nn 158 (by omega)]; exact q3.2.2⟩
/-- plus, minus -/
theorem IN.add (H : IN rc (f :: r)) (h1 : ¬ fm f = 1) {v : Fn} (hv : fc f = some v) {op : Nat} (ho : op = 8 ∨ op = 9) : IN (rc ++ [nI (rcd op)]) ((fm f, fK f, fA f, some (op, co (fS f) (pr (fp f) v)), none, none) :: r) := by
  have hl := H.2.1
  simp only [List.length_cons] at hl
  refine H.snoc _ (ok_set H.1 rfl h1) H.2.1 (fun h x1 x n E hx1 hx hE h0 hc R => ?_)
  obtain ⟨R1, R2⟩ := R
  obtain ⟨hs, es, k1, k2, ws⟩ := e_sums (d := r.length) (by omega) hv R1
  obtain ⟨q1, q2, q3, q4, q5⟩ := R1
  have w1 : zsm (ADd r.length) h hs := ws.mono (fun a k z => by unfold ADd; omega)
  have w2 : zsm (ADd r.length) hs (zpi hs 159 r.length (nI (rcd op))) := zsm.pi (by unfold ADd; omega)
  have nn : ∀ a, ¬ a = 158 → ¬ a = 159 → ¬ a = 161 → (zpi hs 159 r.length (nI (rcd op))).1 a r.length = h.1 a r.length := fun a ha hb hc => by rw [zpi_r, if_neg (fun z => hb z.1), (ws _ _ (by omega)).1]
  refine ⟨zpi hs 159 r.length (nI (rcd op)), ?_, ⟨⟨?_, ?_, ⟨by rw [zpi_r, if_pos ⟨rfl, rfl⟩], ho, by rw [zpi_r, if_neg (by omega)]; exact k1⟩, by show _ = _; rw [zpi_r, if_neg (by omega)]; exact k2, fun z => by rw [nn 162 (by omega) (by omega) (by omega)]; exact q5 z⟩, rf_low (rf_low R2 w1 (Nat.le_refl _)) w2 (Nat.le_refl _)⟩, (w1.tr w2).mono (fun a k z => by unfold ADd at z; unfold ADw; omega)⟩
  · rw [w14 hx1 hx hE h0 hc]
    have : (f :: r).length - 1 = r.length := by simp
    unfold g_X12_worked_89
    rw [this, es, zbind_s, zin_t (by omega) (by omega), zx_nI (by omega)]
    simp only [zr_0_0, zr_0_1, zr_0_2, zr_0_3, zr_0_4, zr_0_5, zr_0_6, zr_0_7, zr_0_8, zr_1_0, zr_3_0, zr_3_1, zr_3_2, zr_3_3, zr_3_4, zr_3_5, zr_3_6, zr_10_0, zr_10_1, zr_13_0, zr_13_1, zr_13_4, zr_14_0, zr_14_1, zr_14_2, zr_14_3, zr_14_4, zr_14_5, zr_14_6, zr_21_0, zr_21_1, zr_24_0, zr_24_1, zr_24_2, zr_26_0, zr_26_1, zr_26_4, zr_27_0, zr_37_0, zr_37_1, zr_38_0, zr_44_0, zr_44_1, zr_44_2, zr_44_3, zr_45_0, zr_45_1, zr_52_0, zr_52_1, zr_59_0, zr_59_1, zr_66_0, zr_66_1, zr_73_0, zr_74_0, zr_74_1, zr_74_2, zr_74_3, zr_74_4, zr_74_5, zr_74_6, zr_74_7, zr_74_8, zr_74_9, zr_74_10, zr_74_11, zr_74_12, zr_74_13, zr_74_14, zr_74_15, zr_139_2, zr_139_10, zr_139_11, zr_139_12, zr_139_13, zr_139_14, zr_139_15, zr_139_16, zr_139_17, zr_139_18, zr_139_19, zr_139_20, zr_139_23, zr_139_24, zr_139_25, zr_139_26, zr_139_27, zr_139_28, zr_139_29, zr_139_30, zr_139_31, zr_139_32, zr_139_33, zr_139_34, zr_139_37, zr_139_38, zr_139_39, zr_139_40, zr_139_41, zr_139_42, zr_139_43, zr_139_44, zr_139_45, zr_139_46, zr_139_47, zr_139_48, zr_139_50, zgu_t, zlet_e, nI_1]
    rcases ho with rfl | rfl
    · rw [if_neg (by decide), if_neg (by decide), if_pos (by decide)]; simp
    · rw [if_neg (by decide), if_neg (by decide), if_neg (by decide), if_pos (by decide)]; simp
  · show (match fK f with | none => _ | some (op, g) => _)
    cases hK : fK f with
    | none => rw [hK] at q1; show _ = _; rw [nn 155 (by omega) (by omega) (by omega)]; exact q1
    | some q => rw [hK] at q1; exact ⟨by rw [nn 155 (by omega) (by omega) (by omega)]; exact q1.1, q1.2.1, by rw [nn 154 (by omega) (by omega) (by omega)]; exact q1.2.2⟩
  · show (match fA f with | none => _ | some (op, g) => _)
    cases hK : fA f with
    | none => rw [hK] at q2; show _ = _; rw [nn 157 (by omega) (by omega) (by omega)]; exact q2
    | some q => rw [hK] at q2; exact ⟨by rw [nn 157 (by omega) (by omega) (by omega)]; exact q2.1, q2.2.1, by rw [nn 156 (by omega) (by omega) (by omega)]; exact q2.2.2⟩
/-- a test -/
theorem IN.tst (H : IN rc (f :: r)) (h1 : ¬ fm f = 1) {v : Fn} (hv : fc f = some v) {op : Nat} (ho : op = 6 ∨ op = 7) : IN (rc ++ [nI (rcd op)]) ((fm f, fK f, some (op, co (fS f) (pr (fp f) v)), none, none, none) :: r) := by
  have hl := H.2.1
  simp only [List.length_cons] at hl
  refine H.snoc _ (ok_set H.1 rfl h1) H.2.1 (fun h x1 x n E hx1 hx hE h0 hc R => ?_)
  obtain ⟨R1, R2⟩ := R
  obtain ⟨hs, es, k1, k2, ws⟩ := e_sums (d := r.length) (by omega) hv R1
  obtain ⟨q1, q2, q3, q4, q5⟩ := R1
  have w1 : zsm (ADd r.length) h hs := ws.mono (fun a k z => by unfold ADd; omega)
  have w2 : zsm (ADd r.length) hs (zpi (zpi (zpi (zpi hs 156 r.length (hs.1 158 r.length)) 157 r.length (nI (rcd op))) 158 r.length 0) 159 r.length 20) := (((zsm.pi (by unfold ADd; omega)).tr (zsm.pi (by unfold ADd; omega))).tr (zsm.pi (by unfold ADd; omega))).tr (zsm.pi (by unfold ADd; omega))
  refine ⟨zpi (zpi (zpi (zpi hs 156 r.length (hs.1 158 r.length)) 157 r.length (nI (rcd op))) 158 r.length 0) 159 r.length 20, ?_, ⟨⟨?_, ⟨?_, ho, ?_⟩, ⟨?_, ?_⟩, ?_, fun z => ?_⟩, rf_low (rf_low R2 w1 (Nat.le_refl _)) w2 (Nat.le_refl _)⟩, (w1.tr w2).mono (fun a k z => by unfold ADd at z; unfold ADw; omega)⟩
  · rw [w14 hx1 hx hE h0 hc]
    have : (f :: r).length - 1 = r.length := by simp
    unfold g_X12_worked_137
    rw [this, es, zbind_s, zin_t (by omega) (by omega), zx_nI (by omega)]
    simp only [zr_0_0, zr_0_1, zr_0_2, zr_0_3, zr_0_4, zr_0_5, zr_0_6, zr_0_7, zr_0_8, zr_1_0, zr_3_0, zr_3_1, zr_3_2, zr_3_3, zr_3_4, zr_3_5, zr_3_6, zr_10_0, zr_10_1, zr_13_0, zr_13_1, zr_13_4, zr_14_0, zr_14_1, zr_14_2, zr_14_3, zr_14_4, zr_14_5, zr_14_6, zr_21_0, zr_21_1, zr_24_0, zr_24_1, zr_24_2, zr_26_0, zr_26_1, zr_26_4, zr_27_0, zr_37_0, zr_37_1, zr_38_0, zr_44_0, zr_44_1, zr_44_2, zr_44_3, zr_45_0, zr_45_1, zr_52_0, zr_52_1, zr_59_0, zr_59_1, zr_66_0, zr_66_1, zr_73_0, zr_74_0, zr_74_1, zr_74_2, zr_74_3, zr_74_4, zr_74_5, zr_74_6, zr_74_7, zr_74_8, zr_74_9, zr_74_10, zr_74_11, zr_74_12, zr_74_13, zr_74_14, zr_74_15, zr_139_2, zr_139_10, zr_139_11, zr_139_12, zr_139_13, zr_139_14, zr_139_15, zr_139_16, zr_139_17, zr_139_18, zr_139_19, zr_139_20, zr_139_23, zr_139_24, zr_139_25, zr_139_26, zr_139_27, zr_139_28, zr_139_29, zr_139_30, zr_139_31, zr_139_32, zr_139_33, zr_139_34, zr_139_37, zr_139_38, zr_139_39, zr_139_40, zr_139_41, zr_139_42, zr_139_43, zr_139_44, zr_139_45, zr_139_46, zr_139_47, zr_139_48, zr_139_50, zgu_t, zlet_e, nI_1]
    rcases ho with rfl | rfl
    · rw [if_neg (by decide), if_neg (by decide), if_neg (by decide), if_neg (by decide), if_neg (by decide), if_pos (by decide)]; simp
    · rw [if_neg (by decide), if_neg (by decide), if_neg (by decide), if_neg (by decide), if_neg (by decide), if_neg (by decide), if_pos (by decide)]; simp
  · show (match fK f with | none => _ | some (op, g) => _)
    have nn : ∀ a, a = 154 ∨ a = 155 → (zpi (zpi (zpi (zpi hs 156 r.length (hs.1 158 r.length)) 157 r.length (nI (rcd op))) 158 r.length 0) 159 r.length 20).1 a r.length = h.1 a r.length := fun a ha => by
      rw [zpi_r, if_neg (by omega), zpi_r, if_neg (by omega), zpi_r, if_neg (by omega), zpi_r, if_neg (by omega), (ws _ _ (by omega)).1]
    cases hK : fK f with
    | none => rw [hK] at q1; show _ = _; rw [nn 155 (by omega)]; exact q1
    | some q => rw [hK] at q1; exact ⟨by rw [nn 155 (by omega)]; exact q1.1, q1.2.1, by rw [nn 154 (by omega)]; exact q1.2.2⟩
  · rw [zpi_r, if_neg (by omega), zpi_r, if_neg (by omega), zpi_r, if_pos ⟨rfl, rfl⟩]
  · rw [zpi_r, if_neg (by omega), zpi_r, if_neg (by omega), zpi_r, if_neg (by omega), zpi_r, if_pos ⟨rfl, rfl⟩]; exact k1
  · rw [zpi_r, if_neg (by omega), zpi_r, if_pos ⟨rfl, rfl⟩]
  · rw [zpi_r, if_pos ⟨rfl, rfl⟩]
  · show _ = _
    rw [zpi_r, if_neg (by omega), zpi_r, if_neg (by omega), zpi_r, if_neg (by omega), zpi_r, if_neg (by omega)]; exact k2
  · rw [zpi_r, if_neg (by omega), zpi_r, if_neg (by omega), zpi_r, if_neg (by omega), zpi_r, if_neg (by omega), (ws _ _ (by omega)).1]; exact q5 z
/-- and, or -/
theorem IN.log (H : IN rc (f :: r)) (h1 : ¬ fm f = 1) {v : Fn} (hv : fc f = some v) {op : Nat} (ho : op = 36 ∨ op = 37) : IN (rc ++ [nI (rcd op)]) ((fm f, some (op, fv f v), none, none, none, none) :: r) := by
  have hl := H.2.1
  simp only [List.length_cons] at hl
  refine H.snoc _ (ok_set H.1 rfl h1) H.2.1 (fun h x1 x n E hx1 hx hE h0 hc R => ?_)
  obtain ⟨R1, R2⟩ := R
  obtain ⟨hs, es, k1, k2, k3, k4, k5, k6, ws⟩ := e_tests (d := r.length) (by omega) hv R1
  obtain ⟨q1, q2, q3, q4, q5⟩ := R1
  have w2 : zsm (ADd r.length) hs (zpi hs 155 r.length (nI (rcd op))) := zsm.pi (by unfold ADd; omega)
  have nn : ∀ a, ¬ a = 155 → (zpi hs 155 r.length (nI (rcd op))).1 a r.length = hs.1 a r.length := fun a ha => by rw [zpi_r, if_neg (fun z => ha z.1)]
  refine ⟨zpi hs 155 r.length (nI (rcd op)), ?_, ⟨⟨⟨by rw [zpi_r, if_pos ⟨rfl, rfl⟩], ho, by rw [nn 154 (by omega)]; exact k1⟩, by show _ = _; rw [nn 157 (by omega)]; exact k2, ⟨by rw [nn 158 (by omega)]; exact k3, by rw [nn 159 (by omega)]; exact k4⟩, by show _ = _; rw [nn 161 (by omega)]; exact k5, fun z => by rw [nn 162 (by omega), k6]; exact q5 z⟩, rf_low (rf_low R2 ws (Nat.le_refl _)) w2 (Nat.le_refl _)⟩, (ws.tr w2).mono (fun a k z => by unfold ADd at z; unfold ADw; omega)⟩
  rw [w14 hx1 hx hE h0 hc]
  have : (f :: r).length - 1 = r.length := by simp
  unfold g_X12_worked_194
  rw [this, es, zbind_s, zin_t (by omega) (by omega), zx_nI (by omega)]
  simp only [zr_0_0, zr_0_1, zr_0_2, zr_0_3, zr_0_4, zr_0_5, zr_0_6, zr_0_7, zr_0_8, zr_1_0, zr_3_0, zr_3_1, zr_3_2, zr_3_3, zr_3_4, zr_3_5, zr_3_6, zr_10_0, zr_10_1, zr_13_0, zr_13_1, zr_13_4, zr_14_0, zr_14_1, zr_14_2, zr_14_3, zr_14_4, zr_14_5, zr_14_6, zr_21_0, zr_21_1, zr_24_0, zr_24_1, zr_24_2, zr_26_0, zr_26_1, zr_26_4, zr_27_0, zr_37_0, zr_37_1, zr_38_0, zr_44_0, zr_44_1, zr_44_2, zr_44_3, zr_45_0, zr_45_1, zr_52_0, zr_52_1, zr_59_0, zr_59_1, zr_66_0, zr_66_1, zr_73_0, zr_74_0, zr_74_1, zr_74_2, zr_74_3, zr_74_4, zr_74_5, zr_74_6, zr_74_7, zr_74_8, zr_74_9, zr_74_10, zr_74_11, zr_74_12, zr_74_13, zr_74_14, zr_74_15, zr_139_2, zr_139_10, zr_139_11, zr_139_12, zr_139_13, zr_139_14, zr_139_15, zr_139_16, zr_139_17, zr_139_18, zr_139_19, zr_139_20, zr_139_23, zr_139_24, zr_139_25, zr_139_26, zr_139_27, zr_139_28, zr_139_29, zr_139_30, zr_139_31, zr_139_32, zr_139_33, zr_139_34, zr_139_37, zr_139_38, zr_139_39, zr_139_40, zr_139_41, zr_139_42, zr_139_43, zr_139_44, zr_139_45, zr_139_46, zr_139_47, zr_139_48, zr_139_50, zgu_t, zlet_e, nI_1]
  rcases ho with rfl | rfl
  · rw [if_neg (by decide), if_neg (by decide), if_neg (by decide), if_neg (by decide), if_neg (by decide), if_neg (by decide), if_neg (by decide), if_pos (by decide)]; simp
  · rw [if_neg (by decide), if_neg (by decide), if_neg (by decide), if_neg (by decide), if_neg (by decide), if_neg (by decide), if_neg (by decide), if_neg (by decide), if_pos (by decide)]; simp
/-- a fact -/
theorem IN.fct (H : IN rc fs) (W : wnt fs) {t : Nat} (h1 : 1 ≤ t) (h4 : t ≤ 4) : IN (rc ++ [nI t]) (prt (fun e => if t = 1 then e.1 else if t = 2 then e.2.1 else if t = 3 then e.2.2.1 else e.2.2.2) fs) := by
  obtain ⟨o1, o2⟩ := prt_ok fs (fun e => if t = 1 then e.1 else if t = 2 then e.2.1 else if t = 3 then e.2.2.1 else e.2.2.2) H.1
  have hl := H.2.1
  refine H.snoc _ o1 (by omega) (fun h x1 x n E hx1 hx hE h0 hc R => ?_)
  obtain ⟨h2, e2, R2, w2⟩ := e_prt (k14 := g_X12_worked_14 139 n) (x1 := nI x1) (x3 := x) fs (fun e => if t = 1 then e.1 else if t = 2 then e.2.1 else if t = 3 then e.2.2.1 else e.2.2.2) zfu h H.1 W hl (by show _ ≤ 4000; omega) R
  refine ⟨h2, ?_, R2, w2⟩
  have cs : t = 1 ∨ t = 2 ∨ t = 3 ∨ t = 4 := by omega
  have ev : (if t = 1 then (evM h).1 else if t = 2 then (evM h).2.1 else if t = 3 then (evM h).2.2.1 else (evM h).2.2.2) = h.1 163 t := by
    rcases cs with rfl | rfl | rfl | rfl <;> rfl
  simp only [ev] at e2
  have ne : ∀ k, 5 ≤ k → k < 100 → ¬ nI t = nI k := fun k hk hk2 z => by rw [znI_eq (by omega) (by omega)] at z; omega
  have n28 : ¬ nI t = 28 := ne 28 (by omega) (by omega)
  have n30 : ¬ nI t = 30 := ne 30 (by omega) (by omega)
  have n20 : ¬ nI t = 20 := ne 20 (by omega) (by omega)
  have n21 : ¬ nI t = 21 := ne 21 (by omega) (by omega)
  have n22 : ¬ nI t = 22 := ne 22 (by omega) (by omega)
  have n24 : ¬ nI t = 24 := ne 24 (by omega) (by omega)
  have n25 : ¬ nI t = 25 := ne 25 (by omega) (by omega)
  have n26 : ¬ nI t = 26 := ne 26 (by omega) (by omega)
  have n27 : ¬ nI t = 27 := ne 27 (by omega) (by omega)
  have n29 : ¬ nI t = 29 := ne 29 (by omega) (by omega)
  rw [w14 hx1 hx hE h0 hc, if_neg n28, if_neg n30, if_neg n20, if_neg n21, if_neg n22, if_neg n24, if_neg n25, if_neg n26, if_neg n27, if_pos (by rw [zltR_100 (by omega)]; omega), if_neg (by rw [zleL_20 (by omega)]; omega)]
  unfold g_X12_worked_243
  rw [if_neg n29, zin_t (show t < 20 by omega) (by omega), zx_nI (by omega), zgu_t, e2]
/-- a number -/
theorem IN.num (H : IN rc fs) (W : wnt fs) {m : Nat} (hm : m ≤ 9999) : IN (rc ++ [nI (100 + m)]) (prt (fun _ => nI m) fs) := by
  obtain ⟨o1, o2⟩ := prt_ok fs (fun _ => nI m) H.1
  have hl := H.2.1
  refine H.snoc _ o1 (by omega) (fun h x1 x n E hx1 hx hE h0 hc R => ?_)
  obtain ⟨h2, e2, R2, w2⟩ := e_prt (k14 := g_X12_worked_14 139 n) (x1 := nI x1) (x3 := x) fs (fun _ => nI m) zfu h H.1 W hl (by show _ ≤ 4000; omega) R
  refine ⟨h2, ?_, R2, w2⟩
  have ne : ∀ k, k < 100 → ¬ nI (100 + m) = nI k := fun k hk z => by rw [znI_eq (by omega) (by omega)] at z; omega
  have n28 : ¬ nI (100 + m) = 28 := ne 28 (by omega)
  have n30 : ¬ nI (100 + m) = 30 := ne 30 (by omega)
  have n20 : ¬ nI (100 + m) = 20 := ne 20 (by omega)
  have n21 : ¬ nI (100 + m) = 21 := ne 21 (by omega)
  have n22 : ¬ nI (100 + m) = 22 := ne 22 (by omega)
  have n24 : ¬ nI (100 + m) = 24 := ne 24 (by omega)
  have n25 : ¬ nI (100 + m) = 25 := ne 25 (by omega)
  have n26 : ¬ nI (100 + m) = 26 := ne 26 (by omega)
  have n27 : ¬ nI (100 + m) = 27 := ne 27 (by omega)
  have n29 : ¬ nI (100 + m) = 29 := ne 29 (by omega)
  have e100 : nI (100 + m) - 100 = nI m := by
    have := nI_sb (a := 100 + m) (b := 100) (by omega)
    rw [show 100 + m - 100 = m by omega] at this
    exact this
  rw [w14 hx1 hx hE h0 hc, if_neg n28, if_neg n30, if_neg n20, if_neg n21, if_neg n22, if_neg n24, if_neg n25, if_neg n26, if_neg n27, if_neg (by rw [zltR_100 (by omega)]; omega)]
  unfold g_X12_worked_243
  rw [if_neg n29, e100]
  exact e2
/-- a bracket is closed -/
theorem IN.cls (H : IN rc (f :: r)) (h2 : fm f = 2) {v : Fn} (hv : fc f = some v) : IN (rc ++ [29]) (prt (fv f v) r) := by
  have hne : ¬ r = [] := by
    intro z
    have := H.1.1
    rw [if_pos z] at this
    omega
  have hr := H.1.1
  rw [if_neg hne] at hr
  obtain ⟨o1, o2⟩ := prt_ok r (fv f v) hr.2.1
  have hl := H.2.1
  simp only [List.length_cons] at hl
  have hr1 : 1 ≤ r.length := by cases r with
    | nil => exact absurd rfl hne
    | cons _ _ => simp
  refine H.snoc _ o1 (by omega) (fun h x1 x n E hx1 hx hE h0 hc R => ?_)
  obtain ⟨R1, R2⟩ := R
  obtain ⟨hs, es, k1, k2, k3, k4, k5, k6, ws⟩ := e_tests (d := r.length) (by omega) hv R1
  have ee : evM hs = evM h := by
    unfold evM
    rw [(ws 163 1 (by unfold ADd; omega)).1, (ws 163 2 (by unfold ADd; omega)).1, (ws 163 3 (by unfold ADd; omega)).1, (ws 163 4 (by unfold ADd; omega)).1]
  obtain ⟨h2, e2, R3, w2⟩ := e_prt (e := evM h) (k14 := g_X12_worked_14 139 n) (x1 := nI x1) (x3 := x) r (fv f v) zfu hs hr.2.1 hr.2.2 (by omega) (by show _ ≤ 4000; omega) (rf_low R2 ws (Nat.le_refl _))
  refine ⟨h2, ?_, R3, (ws.mono (fun a k z => by unfold ADd at z; unfold ADw; omega)).tr w2⟩
  have : (f :: r).length - 1 = r.length := by simp
  have em : nI r.length + (-1) = nI (r.length - 1) := by
    rw [← nI_s1 hr1]
    apply Int32.toBitVec_inj.mp
    rw [Int32.toBitVec_add, Int32.toBitVec_sub]
    rw [BitVec.sub_eq_add_neg]; rfl
  rw [w14 hx1 hx hE h0 hc, this, if_neg (by decide), if_neg (by decide), if_neg (by decide), if_neg (by decide), if_neg (by decide), if_neg (by decide), if_neg (by decide), if_neg (by decide), if_neg (by decide), if_pos (by decide), if_pos (by decide)]
  unfold g_X12_worked_243
  rw [if_pos rfl, es, zbind_s, zin_t (by omega) (by omega), zgu_t, zx_nI (by omega), zr_139_25, k1, zlet_e, em, e2]
/-- a line of the reference, worked out -/
theorem IN.lw (H : IN rc [f]) {v : Fn} (hv : fc f = some v) {b x1 : Nat} (hx1 : x1 < 2) (hb : b + rc.length ≤ 1000) (hc : ∀ j, j < rc.length → h.1 151 (b + j) = rc.getD j 0) (hf : h.1 149 x1 = nI b) (ht : h.1 150 x1 = nI (b + rc.length)) : LWM (fun a b c d => fv f v (a, b, c, d)) h x1 := by
  intro h1 c1 c2 c3
  obtain ⟨h0, e0, a1, a2, a3, a4, a5, a6, w0⟩ := e_opens (h := h1) (d := 0) (by omega)
  have ee : evM h0 = evM h1 := by
    unfold evM
    rw [(w0 163 1 (by unfold ADd; omega)).1, (w0 163 2 (by unfold ADd; omega)).1, (w0 163 3 (by unfold ADd; omega)).1, (w0 163 4 (by unfold ADd; omega)).1]
  obtain ⟨n, hn⟩ : ∃ n, zfu = (n + 1) + rc.length := ⟨3999 - rc.length, by show 4000 = _; omega⟩
  have t0 : h0.1 150 x1 = nI (b + rc.length) := by rw [(w0 150 x1 (by unfold ADd; omega)).1, c3]; exact ht
  obtain ⟨h2, e2, R2, w2⟩ := H.2.2.2 h0 x1 b (n + 1) (b + rc.length) hx1 (fun j hj => by rw [(w0 151 _ (by unfold ADd; omega)).1, c1 _ (by omega)]; exact hc j hj) (Nat.le_refl _) hb t0 ⟨⟨a1, a2, ⟨a3, a4⟩, a5, fun z => by simp at z⟩, trivial⟩
  rw [ee] at R2
  obtain ⟨h3, e3, k1, k2, k3, k4, k5, k6, w3⟩ := e_tests (d := 0) (by omega) hv R2.1
  refine ⟨h3, ?_, ((w0.mono (fun a k z => by unfold ADd at z; exact z.1)).tr w2).tr (w3.mono (fun a k z => by unfold ADd at z; exact z.1))⟩
  have e0 : g_X12_opens h1 139 0 = some h0 := e0
  have e3 : g_X12_tests h2 139 0 = some h3 := e3
  have hfrom : h0.1 149 x1 = nI b := by rw [(w0 149 x1 (by unfold ADd; omega)).1, c2]; exact hf
  have t2 : h2.1 150 x1 = nI (b + rc.length) := by rw [(w2 150 x1 (by unfold ADw; omega)).1]; exact t0
  unfold g_X12_worked
  rw [e0, zbind_s, zin_t (by omega) (by omega), zgu_t, zx_nI (by omega)]
  simp only [zr_0_0, zr_0_1, zr_0_2, zr_0_3, zr_0_4, zr_0_5, zr_0_6, zr_0_7, zr_0_8, zr_1_0, zr_3_0, zr_3_1, zr_3_2, zr_3_3, zr_3_4, zr_3_5, zr_3_6, zr_10_0, zr_10_1, zr_13_0, zr_13_1, zr_13_4, zr_14_0, zr_14_1, zr_14_2, zr_14_3, zr_14_4, zr_14_5, zr_14_6, zr_21_0, zr_21_1, zr_24_0, zr_24_1, zr_24_2, zr_26_0, zr_26_1, zr_26_4, zr_27_0, zr_37_0, zr_37_1, zr_38_0, zr_44_0, zr_44_1, zr_44_2, zr_44_3, zr_45_0, zr_45_1, zr_52_0, zr_52_1, zr_59_0, zr_59_1, zr_66_0, zr_66_1, zr_73_0, zr_74_0, zr_74_1, zr_74_2, zr_74_3, zr_74_4, zr_74_5, zr_74_6, zr_74_7, zr_74_8, zr_74_9, zr_74_10, zr_74_11, zr_74_12, zr_74_13, zr_74_14, zr_74_15, zr_139_2, zr_139_10, zr_139_11, zr_139_12, zr_139_13, zr_139_14, zr_139_15, zr_139_16, zr_139_17, zr_139_18, zr_139_19, zr_139_20, zr_139_23, zr_139_24, zr_139_25, zr_139_26, zr_139_27, zr_139_28, zr_139_29, zr_139_30, zr_139_31, zr_139_32, zr_139_33, zr_139_34, zr_139_37, zr_139_38, zr_139_39, zr_139_40, zr_139_41, zr_139_42, zr_139_43, zr_139_44, zr_139_45, zr_139_46, zr_139_47, zr_139_48, zr_139_50]
  rw [hfrom, zlet_e, hn, e2, g_X12_worked_14, zin_t (by omega) (by omega), zgu_t, zx_nI (by omega)]
  simp only [zr_0_0, zr_0_1, zr_0_2, zr_0_3, zr_0_4, zr_0_5, zr_0_6, zr_0_7, zr_0_8, zr_1_0, zr_3_0, zr_3_1, zr_3_2, zr_3_3, zr_3_4, zr_3_5, zr_3_6, zr_10_0, zr_10_1, zr_13_0, zr_13_1, zr_13_4, zr_14_0, zr_14_1, zr_14_2, zr_14_3, zr_14_4, zr_14_5, zr_14_6, zr_21_0, zr_21_1, zr_24_0, zr_24_1, zr_24_2, zr_26_0, zr_26_1, zr_26_4, zr_27_0, zr_37_0, zr_37_1, zr_38_0, zr_44_0, zr_44_1, zr_44_2, zr_44_3, zr_45_0, zr_45_1, zr_52_0, zr_52_1, zr_59_0, zr_59_1, zr_66_0, zr_66_1, zr_73_0, zr_74_0, zr_74_1, zr_74_2, zr_74_3, zr_74_4, zr_74_5, zr_74_6, zr_74_7, zr_74_8, zr_74_9, zr_74_10, zr_74_11, zr_74_12, zr_74_13, zr_74_14, zr_74_15, zr_139_2, zr_139_10, zr_139_11, zr_139_12, zr_139_13, zr_139_14, zr_139_15, zr_139_16, zr_139_17, zr_139_18, zr_139_19, zr_139_20, zr_139_23, zr_139_24, zr_139_25, zr_139_26, zr_139_27, zr_139_28, zr_139_29, zr_139_30, zr_139_31, zr_139_32, zr_139_33, zr_139_34, zr_139_37, zr_139_38, zr_139_39, zr_139_40, zr_139_41, zr_139_42, zr_139_43, zr_139_44, zr_139_45, zr_139_46, zr_139_47, zr_139_48, zr_139_50]
  rw [t2, if_pos (by rw [znI_le (by omega) (by omega)]; exact Nat.le_refl _), e3, zbind_s, zil_0 (by decide), zgu_t, zxl_0, k1]; rfl
end L5
