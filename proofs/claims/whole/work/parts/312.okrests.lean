/-! rests: class and reference answer alike -/
theorem gets_eq (h hm : zH) (a b c x y : Int32) : g_X12_getsBy hm a b c x y = g_X11_gain h a b c x y := rfl
theorem within_eq (h hm : zH) (x : Int32) : g_X12_within hm x 0 9 = g_X11_isDigit h x := rfl
theorem zpi_me {h : zH} {t k : Nat} {x : Int32} : (zpi h t k x).1 t k = x := if_pos ⟨rfl, rfl⟩
theorem zpl_me {h : zH} {t k : Nat} {x : Int64} : (zpl h t k x).2 t k = x := if_pos ⟨rfl, rfl⟩
theorem rl_eq {h hm : zH} {a b c w : Int32} (h0 : hm.1 139 0 = 0) : ∀ n i num f, i + n = 4 → ∃ v h2, g_X12_rests_61 139 (n + 1 + f) a b c w num (nI i) hm = some (v, h2) ∧ (h2 = hm ∨ ∃ t, h2 = zpi hm 139 0 t) ∧ ((rLoop h a b c w n i num = some v ∧ h2.1 139 0 = 0) ∨ (rLoop h a b c w n i num = none ∧ h2.1 139 0 = 1)) := by
  intro n
  induction n with
  | zero =>
    intro i num f hi
    have : i = 4 := by omega
    subst this
    rw [show 0 + 1 + f = f + 1 by omega, g_X12_rests_61, if_pos (by decide), rLoop]
    unfold g_X12_rests_163
    by_cases q : w = -1
    · rw [if_pos q, if_pos q, zlet_e, if_pos q]
      exact ⟨num, zpi hm 139 0 0, rfl, Or.inr ⟨0, rfl⟩, Or.inl ⟨rfl, zpi_me⟩⟩
    · rw [if_neg q, if_neg q, zlet_e, if_neg q]
      exact ⟨0, zpi hm 139 0 1, rfl, Or.inr ⟨1, rfl⟩, Or.inr ⟨rfl, zpi_me⟩⟩
  | succ n ih =>
    intro i num f hi
    rw [show n + 1 + 1 + f = (n + 1 + f) + 1 by omega, g_X12_rests_61, if_neg (by rw [zleL_4 (by omega)]; omega), rLoop]
    obtain ⟨r1, e1⟩ := gain_t h a b c (nI i / 2) (nI i - nI i / 2 * 2)
    obtain ⟨r2, e2⟩ := gain_t h a b c (1 - nI i / 2) (nI i - nI i / 2 * 2)
    obtain ⟨r3, e3⟩ := gain_t h a b c (nI i - nI i / 2 * 2) (nI i / 2)
    obtain ⟨r4, e4⟩ := gain_t h a b c (1 - (nI i - nI i / 2 * 2)) (nI i / 2)
    have ea := aR_s h a b c (nI i)
    unfold g_X11_isAtRest at ea
    rw [zlet_e, e1, zbind_s, e2, zbind_s, e3, zbind_s, e4, zbind_s] at ea
    rw [zlet_e, gets_eq h, e2, zbind_s, gets_eq h, e1, zbind_s, gets_eq h, e4, zbind_s, gets_eq h, e3, zbind_s]
    by_cases q1 : r1 < r2
    · rw [if_pos q1] at ea
      have ha : aR h a b c (nI i) = false := (Option.some.inj ea).symm
      rw [if_pos q1, if_pos (by rw [ha]; rfl), nI_1]
      exact ih (i + 1) num f (by omega)
    · rw [if_neg q1] at ea
      rw [if_neg q1]
      by_cases q2 : r3 < r4
      · rw [if_pos q2] at ea
        have ha : aR h a b c (nI i) = false := (Option.some.inj ea).symm
        rw [if_neg (Int32.not_le.mpr q2), if_pos (by rw [ha]; rfl), nI_1]
        exact ih (i + 1) num f (by omega)
      · rw [if_neg q2] at ea
        have ha : aR h a b c (nI i) = true := (Option.some.inj ea).symm
        have hz : ¬ zb (aR h a b c (nI i)) = 0 := by rw [ha]; decide
        rw [if_pos (Int32.not_lt.mp q2), if_neg hz]
        by_cases q3 : num = w
        · rw [if_pos q3, if_pos q3]
          exact ⟨nI i, hm, rfl, Or.inl rfl, Or.inl ⟨rfl, h0⟩⟩
        · rw [if_neg q3, if_neg q3, nI_1]
          exact ih (i + 1) (num + 1) f (by omega)
def xHd (hh h2 : zH) : Prop := ∃ t, h2 = zpi hh 139 0 t ∨ ∃ t2, h2 = zpi (zpi hh 139 0 t) 139 0 t2
theorem m_rests (h hh : zH) (a b c w : Int32) : ∃ v h2, g_X12_rests hh 139 a b c w = some (v, h2) ∧ xHd hh h2 ∧ ((gRests h a b c w = some v ∧ h2.1 139 0 = 0) ∨ (gRests h a b c w = none ∧ h2.1 139 0 = 1)) := by
  have hw : ∀ x, g_X12_within hh x 0 9 = some (dG h x) := fun x => (within_eq h hh x).trans (dG_s h x)
  have bad : g_X12_rests_41 139 a b c w hh = some (0, zpi hh 139 0 1) := by
    unfold g_X12_rests_41 g_X12_rests_42
    rw [zlet_e, if_pos zpi_me]
  have fb : ∀ {g : Option (Int32 × zH)} {o : Option Int32}, g = some (0, zpi hh 139 0 1) → o = none → ∃ v h2, g = some (v, h2) ∧ xHd hh h2 ∧ ((o = some v ∧ h2.1 139 0 = 0) ∨ (o = none ∧ h2.1 139 0 = 1)) := fun e1 e2 => ⟨0, _, e1, ⟨1, Or.inl rfl⟩, Or.inr ⟨e2, zpi_me⟩⟩
  have e0 : g_X12_rests hh 139 a b c w = if zb (dG h a) = 0 then g_X12_rests_41 139 a b c w hh else if zb (dG h b) = 0 then g_X12_rests_41 139 a b c w hh else if zb (dG h c) = 0 then g_X12_rests_41 139 a b c w hh else if w < -1 then g_X12_rests_41 139 a b c w hh else g_X12_rests_42 139 a b c w 0 hh := by
    unfold g_X12_rests
    rw [hw, zbind_s, hw, zbind_s, hw, zbind_s]
  rw [e0]
  unfold gRests
  by_cases qa : zb (dG h a) = 0
  · rw [if_pos qa, if_pos qa]; exact fb bad rfl
  rw [if_neg qa, if_neg qa]
  by_cases qb : zb (dG h b) = 0
  · rw [if_pos qb, if_pos qb]; exact fb bad rfl
  rw [if_neg qb, if_neg qb]
  by_cases qc : zb (dG h c) = 0
  · rw [if_pos qc, if_pos qc]; exact fb bad rfl
  rw [if_neg qc, if_neg qc]
  by_cases qw : w < -1
  · rw [if_pos qw, if_pos qw]; exact fb bad rfl
  rw [if_neg qw, if_neg qw]
  unfold g_X12_rests_42
  rw [zlet_e, if_neg (by rw [zpi_me]; decide)]
  obtain ⟨v, h2, e1, e2, e3⟩ := rl_eq (h := h) (hm := zpi hh 139 0 0) (a := a) (b := b) (c := c) (w := w) zpi_me 4 0 0 3995 rfl
  refine ⟨v, h2, e1, ?_, e3⟩
  rcases e2 with rfl | ⟨t, rfl⟩
  · exact ⟨0, Or.inl rfl⟩
  · exact ⟨0, Or.inr ⟨t, rfl⟩⟩
theorem Rel.th {h : zH} (H : Rel h) (t : Int32) : Rel (zpi h 139 0 t) := by
  obtain ⟨R, S, pc, pS, Z, I, C, M⟩ := H
  exact ⟨R, S, pc, pS, Z, I, C.other (zsm.pi (A := fun a _ => a = 139) rfl) (fun a k z => by omega), M.th t⟩
theorem Rel.out {h : zH} (H : Rel h) (x : Int64) : Rel (zpl h 177 0 x) := by
  obtain ⟨R, S, pc, pS, Z, I, C, M⟩ := H
  have y : zsm (fun a _ => a = 177) h (zpl h 177 0 x) := zsm.pl rfl
  exact ⟨R, S, pc, pS, Z, I, C.other y (fun a k z => by omega), M.1.same y (fun a k z => by unfold Amo; omega), M.2.1.same y (fun b z => by omega), M.2.2.1.same y (fun z => by omega) (fun k z => by omega), M.2.2.2.same y (fun k z => by omega)⟩
theorem xHd.rel {hh h2 : zH} (x : xHd hh h2) (H : Rel hh) : Rel h2 := by
  rcases x with ⟨t, rfl | ⟨t2, rfl⟩⟩
  · exact H.th t
  · exact (H.th t).th t2
theorem xHd.l {hh h2 : zH} (x : xHd hh h2) (a b : Nat) : h2.2 a b = hh.2 a b := by
  rcases x with ⟨t, rfl | ⟨t2, rfl⟩⟩ <;> rfl
theorem ok_rests {h : zH} (H : Rel h) (a b c w : Int32) : ∃ v h2, g_X12_rests (gL h a b c w).2 139 a b c w = some (v, h2) ∧ h2.1 139 0 = (gL h a b c w).1 ∧ ((gL h a b c w).1 = 0 → h2.2 177 0 = v.toInt64) ∧ Rel h2 := by
  obtain ⟨v, h2, e1, e2, e3⟩ := m_rests h (gL h a b c w).2 a b c w
  refine ⟨v, h2, e1, ?_⟩
  rcases e3 with ⟨g, t⟩ | ⟨g, t⟩
  · have e9 : gL h a b c w = (0, zpl h 177 0 v.toInt64) := by unfold gL; rw [g]
    rw [e9] at e2 ⊢
    exact ⟨t, fun _ => (e2.l 177 0).trans zpl_me, e2.rel (H.out _)⟩
  · have e9 : gL h a b c w = (1, h) := by unfold gL; rw [g]
    rw [e9] at e2 ⊢
    exact ⟨t, fun q => absurd q (show ¬ (1 : Int32) = 0 by decide), e2.rel H⟩
