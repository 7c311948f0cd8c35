/-! laws: the class reads one to its end -/
/-- how a law is read: the kind (9: good), the place, the levels -/
def lrd (T : zTp) : Nat → Nat → List Fr → Nat × Nat × List Fr
  | 0, q, fs => (1, q, fs)
  | k + 1, q, fs => if (lst (tc T q) (tn T q) fs).1 = 0 then lrd T k (tx T q) (lst (tc T q) (tn T q) fs).2 else ((lst (tc T q) (tn T q) fs).1, q, fs)
theorem lst_pos {c m : Nat} {fs fs' : List Fr} (hs : lst c m fs = (0, fs')) : ¬ c = 0 := by
  intro z
  subst z
  cases fs with
  | nil => cases hs
  | cons f r =>
    simp only [lst] at hs
    cases hc : fc f with
    | none => rw [hc] at hs; simp at hs
    | some v =>
      rw [hc] at hs
      simp at hs
      split at hs <;> cases hs
section L9
variable {h h' : zH} {A : Nat → Nat → Prop} {T : zTp} {q b : Nat} {wl : List Nat} {cc : List Int32} {f : Fr} {r fs : List Fr}
theorem e_lawStep (I : TI T) (H : CLw T q fs cc b h) {n i : Nat} (hi : i ≤ 1000) : LStp T q b i n fs h := by
  cases hw : isW fs
  · exact e_lawOp I H hw hi
  · have h6 := H.2.1.2.2.2.2.1
    have e22 : g_X0_readLaw_22 24 (n + 1) (nI i) h = (g_X0_takePart h 24).bind fun v_13 => g_X0_readLaw_110 24 (g_X0_readLaw_22 24 n) (nI i) v_13.1 v_13.2 := by
      rw [g_X0_readLaw_22, if_neg (by rw [zltL_1000 (by omega)]; omega), h6, hw, zb_t, if_neg (by decide)]
    rcases e_lawPart I H hw (k22 := g_X0_readLaw_22 24 n) (i := i) with ⟨h', fs', cc', a1, a2, a3, a4⟩ | ⟨c, c1, a1, a2⟩
    · exact Or.inl ⟨h', fs', cc', a1, by rw [e22]; exact a2, a3, a4⟩
    · exact Or.inr (Or.inl ⟨c, h, c1, by rw [a1], by rw [e22]; exact a2, H.1, zsm.rf⟩)
theorem e_readLaw22 (I : TI T) : ∀ k q fs cc n i h, T.1 - q < k → k ≤ n → i ≤ q → CLw T q fs cc b h → (∃ c h', (c = 1 ∨ c = 5) ∧ (lrd T k q fs).1 = c ∧ g_X0_readLaw_22 24 n (nI i) h = some (nI c, h') ∧ CT T (lrd T k q fs).2.1 h' ∧ zsm (ALx b) h h') ∨ (∃ h' f v cc', (lrd T k q fs).1 = 9 ∧ (lrd T k q fs).2.2 = [f] ∧ fc f = some v ∧ g_X0_readLaw_22 24 n (nI i) h = some (0, h') ∧ CT T (lrd T k q fs).2.1 h' ∧ zsm (ALx b) h h' ∧ PO cc' (fun e => [fv f v e]) ∧ h'.1 21 7 = nI (b + cc'.length) ∧ (∀ j, j < cc'.length → h'.1 22 (b + j) = cc'.getD j 0) ∧ b + cc'.length ≤ (lrd T k q fs).2.1) := by
  have l := I.1
  intro k
  induction k with
  | zero => intro q fs cc n i h hk; omega
  | succ k ih =>
    intro q fs cc n i h hk hn hi H
    obtain ⟨n, rfl⟩ : ∃ m, n = m + 1 := ⟨n - 1, by omega⟩
    have hq := H.1.2.1
    rcases e_lawStep I H (n := n) (i := i) (by omega) with ⟨h', fs', cc', a1, a2, a3, a4⟩ | ⟨c, h', c1, a1, a2, a3, a4⟩ | ⟨h', f, v, cc', a1, a2, a3, a4, a5, a6, a7⟩
    · have hlt := tc0 hq (lst_pos a1)
      have hx := tx_prop (T := T) hq
      have e : lrd T (k + 1) q fs = lrd T k (tx T q) fs' := by rw [lrd, a1, if_pos rfl]
      rw [e, a2]
      rcases ih (tx T q) fs' cc' n (i + 1) h' (by omega) (by omega) (by omega) a3 with ⟨c, h2, c1, b1, b2, b3, b4⟩ | ⟨h2, f, v, cc2, b1, b2, b3, b4, b5, b6, b7⟩
      · exact Or.inl ⟨c, h2, c1, b1, b2, b3, a4.tr b4⟩
      · exact Or.inr ⟨h2, f, v, cc2, b1, b2, b3, b4, b5, a4.tr b6, b7⟩
    · have e : lrd T (k + 1) q fs = (c, q, fs) := by rw [lrd, a1, if_neg (by omega)]
      rw [e]
      exact Or.inl ⟨c, h', c1, rfl, a2, a3, a4⟩
    · have e : lrd T (k + 1) q fs = (9, q, fs) := by rw [lrd, a1, if_neg (show ¬ (9 : Nat) = 0 by decide)]
      rw [e]
      exact Or.inr ⟨h', f, v, cc', rfl, a2, a3, a4, a5, a6, a7⟩
/-- a law from q on -/
def lrl (T : zTp) (q : Nat) : Nat × Nat × List Fr := lrd T 1001 q [fr0 0]
theorem gd0 : gd [fr0 0] := ⟨⟨by rw [if_pos rfl]; rfl, fun z => by cases z⟩, by simp, ⟨fun _ _ z => (by cases z), fun _ _ z => (by cases z), fun _ _ z => (by cases z), trivial⟩, fun ⟨v, z⟩ => by cases z⟩
theorem e_readLaw (I : TI T) (K : CT T q h) (hb : b ≤ q) (h7 : h.1 21 7 = nI b) : (∃ c h', (c = 1 ∨ c = 5) ∧ (lrl T q).1 = c ∧ g_X0_readLaw h 24 = some (nI c, h') ∧ CT T (lrl T q).2.1 h' ∧ zsm (ALx b) h h') ∨ (∃ h' f v cc', (lrl T q).1 = 9 ∧ (lrl T q).2.2 = [f] ∧ fc f = some v ∧ g_X0_readLaw h 24 = some (0, h') ∧ CT T (lrl T q).2.1 h' ∧ zsm (ALx b) h h' ∧ PO cc' (fun e => [fv f v e]) ∧ h'.1 21 7 = nI (b + cc'.length) ∧ (∀ j, j < cc'.length → h'.1 22 (b + j) = cc'.getD j 0) ∧ b + cc'.length ≤ (lrl T q).2.1) := by
  have l := I.1
  have w : zsm (fun a k => a = 24 ∧ 3 ≤ k ∧ k ≤ 6) h (zpi (zpi (zpi (zpi h 24 3 0) 24 4 0) 24 5 0) 24 6 1) := (((zsm.pi (by omega)).tr (zsm.pi (by omega))).tr (zsm.pi (by omega))).tr (zsm.pi (by omega))
  have hw : zsm (ALr b) h (zpi (zpi (zpi (zpi h 24 3 0) 24 4 0) 24 5 0) 24 6 1) := w.mono (fun a k z => by unfold ALr; omega)
  have H : CLw T q [fr0 0] [] b (zpi (zpi (zpi (zpi h 24 3 0) 24 4 0) 24 5 0) 24 6 1) := by
    refine ⟨K.lr hw, ⟨gd0, ⟨trivial, ?_, ?_, fun j hj => by cases hj⟩, ?_, ?_, ?_, PO.nil⟩, hb⟩
    · rw [zpi_r, if_neg (by omega), zpi_r, if_neg (by omega), zpi_r, if_neg (by omega), zpi_r, if_pos ⟨rfl, rfl⟩]; rfl
    · rw [(w _ _ (by omega)).1, h7]; rfl
    · rw [zpi_r, if_neg (by omega), zpi_r, if_neg (by omega), zpi_r, if_pos ⟨rfl, rfl⟩]; rfl
    · rw [zpi_r, if_neg (by omega), zpi_r, if_pos ⟨rfl, rfl⟩]; rfl
    · rw [zpi_r, if_pos ⟨rfl, rfl⟩]; rfl
  have e : g_X0_readLaw h 24 = g_X0_readLaw_22 24 zfu (nI 0) (zpi (zpi (zpi (zpi h 24 3 0) 24 4 0) 24 5 0) 24 6 1) := by
    unfold g_X0_readLaw
    rw [zlet_e, zlet_e, zlet_e, zlet_e]; rfl
  rw [e]
  rcases e_readLaw22 I 1001 q [fr0 0] [] zfu 0 _ (by omega) (by decide) (by omega) H with ⟨c, h2, c1, b1, b2, b3, b4⟩ | ⟨h2, f, v, cc2, b1, b2, b3, b4, b5, b6, b7⟩
  · exact Or.inl ⟨c, h2, c1, b1, b2, b3, (hw.mono (fun a k z => Or.inl z)).tr b4⟩
  · exact Or.inr ⟨h2, f, v, cc2, b1, b2, b3, b4, b5, (hw.mono (fun a k z => Or.inl z)).tr b6, b7⟩
end L9
