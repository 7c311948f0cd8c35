/-! reading: what the reference takes, token by token -/
def PNm (r n : Nat) (nm : Nat → List Nat) (h : zH) : Prop := n ≤ 7 ∧ r < 2 ∧ h.1 141 (4 * r) = nI n ∧ (∀ p, p < n → h.2 142 (7 * r + p) = w27 (nm p)) ∧ ∀ p, p < n → WI (nm p)
section N2
variable {T : zTp} {q r n : Nat} {h h' : zH} {nm : Nat → List Nat}
theorem MT.vl (K : MT T q h) {k : Nat} (hk : 9 ≤ k) (v : Int32) : MT T q (zpi h 139 k v) := K.same (A := fun a j => a = 139 ∧ j = k) (zsm.pi ⟨rfl, rfl⟩) (fun j _ _ => by omega) (fun j => by omega)
theorem m_fail (K : MT T q h) (c : Nat) : MF q c h (g_X12_fails h 139 (nI c)) := by
  refine ⟨zpi h 139 9 (nI (c + 16 * q)), ?_, by rw [zpi_r, if_pos ⟨rfl, rfl⟩], zsm.pi (Or.inr ⟨rfl, Or.inl rfl⟩)⟩
  unfold g_X12_fails
  rw [K.2.2.1, zmL_16, nI_add, zlet_e]
theorem m_failb (K : MT T q h) (c : Nat) : MF q c h ((g_X12_fails h 139 (nI c)).bind fun v_5 => some (v_5.1, v_5.2)) := by
  obtain ⟨h', e, k, w⟩ := m_fail K c
  exact ⟨h', by rw [e]; rfl, k, w⟩
theorem m_failz (K : MT T q h) (c : Nat) : MF q c h ((g_X12_fails h 139 (nI c)).bind fun v_7 => if (zb v_7.1) = 0 then (some (false, v_7.2)) else (some (true, v_7.2))) := by
  obtain ⟨h', e, k, w⟩ := m_fail K c
  exact ⟨h', by rw [e]; rfl, k, w⟩
theorem MT.t2 (K : MT T q h) : (h.1 139 6 = 2) = (tc T q = 3) := by
  rw [K.2.2.2.2.1]
  have : mtk (tc T q) < 5 := by unfold mtk; repeat' split
                                all_goals omega
  rw [zeq_2 (by omega)]
  apply propext
  unfold mtk
  constructor
  · intro z
    repeat' split at z
    all_goals omega
  · intro z
    rw [z]; rfl
theorem MT.t0 (K : MT T q h) : (h.1 139 6 = 0) = (tc T q = 0) := by
  rw [K.2.2.2.2.1]
  have : mtk (tc T q) < 5 := by unfold mtk; repeat' split
                                all_goals omega
  rw [zeq_0 (by omega)]
  apply propext
  unfold mtk
  constructor
  · intro z
    repeat' split at z
    all_goals omega
  · intro z
    rw [z]; rfl
theorem m_num1 (K : MT T q h) (hx : ¬ tc T q = 3) (lo hi : Int32) : MF q 1 h (g_X12_needsNumber h 139 lo hi) := by
  unfold g_X12_needsNumber
  simp only [K.t2]
  rw [if_neg hx]
  exact m_failb K 1
theorem m_num4 (I : TI T) (K : MT T q h) (hx : tc T q = 3) {lo hi : Nat} (h9 : lo < 1000) (h8 : hi < 1000) (hb : tn T q < lo ∨ hi < tn T q) : MF q 4 h (g_X12_needsNumber h 139 (nI lo) (nI hi)) := by
  have htn := tn_lt I K.2.1 hx
  unfold g_X12_needsNumber
  simp only [K.t2]
  rw [if_pos hx, K.2.2.2.2.2.2 hx, zwith_f (by rw [znI_lt (by omega) (by omega), znI_lt (by omega) (by omega)]; exact hb), zbind_s, zb_f, if_pos rfl]
  exact m_failb K 4
theorem m_numY (I : TI T) (K : MT T q h) (hx : tc T q = 3) {lo hi : Nat} (h9 : lo < 1000) (h8 : hi < 1000) (h1 : lo ≤ tn T q) (h2 : tn T q ≤ hi) : ∃ h', g_X12_needsNumber h 139 (nI lo) (nI hi) = some (true, h') ∧ MT T (tx T q) h' ∧ h'.1 139 35 = nI (tn T q) ∧ zsm AVm h h' := by
  have htn := tn_lt I K.2.1 hx
  obtain ⟨h3, e3, K3, w3⟩ := e_next I (K.vl (k := 35) (by decide) (nI (tn T q)))
  refine ⟨h3, ?_, K3, by rw [(w3 _ _ (by unfold AM1; omega)).1, zpi_r, if_pos ⟨rfl, rfl⟩], (zsm.pi (Or.inr ⟨rfl, Or.inr (Or.inl rfl)⟩)).tr (w3.mono (fun a k z => Or.inl z))⟩
  unfold g_X12_needsNumber
  simp only [K.t2]
  rw [if_pos hx, K.2.2.2.2.2.2 hx, zwith_t h2 h1 (by omega), zbind_s, zb_t, if_neg (by decide), zlet_e, e3, zbind_s]
theorem m_closesY (I : TI T) (K : MT T q h) (hx : tc T q = 11) : ∃ h', g_X12_closes h 139 = some (true, h') ∧ MT T (tx T q) h' ∧ zsm AM1 h h' := by
  obtain ⟨h3, e3, K3, w3⟩ := e_next I K
  have s59 : g_X12_isSign h 139 59 = some (decide (tc T q = 11)) := e_isSign I K (c := 59) (by decide) (by decide)
  refine ⟨h3, ?_, K3, w3⟩
  unfold g_X12_closes
  rw [s59, zbind_s, decide_eq_true hx, zb_t, if_neg (by decide), e3, zbind_s]
theorem m_closesN (I : TI T) (K : MT T q h) (hx : ¬ tc T q = 11) : MF q 1 h (g_X12_closes h 139) := by
  have s59 : g_X12_isSign h 139 59 = some (decide (tc T q = 11)) := e_isSign I K (c := 59) (by decide) (by decide)
  unfold g_X12_closes
  rw [s59, zbind_s, decide_eq_false hx, zb_f, if_pos rfl]
  exact m_failb K 1
theorem e_named5 (P : PNm r n nm h) {l : List Nat} (hl : WI l) (e7 : h.2 139 7 = w27 l) : ∀ k i m, i + k = n → k < m → g_X12_named_5 h 139 m (nI r) (nI (7 * r + i)) = some (zo (fndF nm l k i)) := by
  obtain ⟨hn, hr, h7, hnm, hW⟩ := P
  intro k
  induction k with
  | zero =>
    intro i m hi hm
    obtain ⟨m, rfl⟩ : ∃ m', m = m' + 1 := ⟨m - 1, by omega⟩
    rw [g_X12_named_5, zmL_4, nI_a0, zin_t (by omega) (by omega), zgu_t, zx_nI (by omega), zr_139_10, h7, zmL_7, nI_add, if_pos (by rw [znI_le (by omega) (by omega)]; omega)]; rfl
  | succ k ih =>
    intro i m hi hm
    obtain ⟨m, rfl⟩ : ∃ m', m = m' + 1 := ⟨m - 1, by omega⟩
    rw [g_X12_named_5, zmL_4, nI_a0, zin_t (by omega) (by omega), zgu_t, zx_nI (by omega), zr_139_10, h7, zmL_7, nI_add, if_neg (by rw [znI_le (by omega) (by omega)]; omega), zin_t (by omega) (by omega), zgu_t, zx_nI (by omega), zr_139_11, hnm i (by omega), e7, fndF]
    simp only [lg_cmp_eq, w27_inj (hW i (by omega)) hl]
    by_cases c : nm i = l
    · rw [if_pos c, if_pos c, nI_sb (by omega), show 7 * r + i - 7 * r = i by omega]; rfl
    · rw [if_neg c, if_neg c, nI_1]
      exact ih (i + 1) m (by omega) (by omega)
theorem PNm.num (P : PNm r n nm h) {l : List Nat} (hl : WI l) (e7 : h.2 139 7 = w27 l) : g_X12_named h 139 (nI r) = some (zo (fnd n nm l)) := by
  unfold g_X12_named
  rw [zmL_7]
  exact e_named5 P hl e7 n 0 zfu (by omega) (by have := P.1; show _ < 4000; omega)
theorem PNm.wd (P : PNm r n nm h) (I : TI T) (K : MT T q h) (hx : tnm T q = true) : g_X12_named h 139 (nI r) = some (zo (fnd n nm (tl T q))) := P.num (wd_prop I K.2.1 (tnm_wd hx)).2.2.2.2 (K.2.2.2.2.2.1 (tnm_wd hx))
theorem m_find1 (I : TI T) (K : MT T q h) (hx : tnm T q = false) (x : Int32) : MF q 1 h (g_X12_needsPerson h 139 x) := by
  unfold g_X12_needsPerson
  rw [e_isKept I K, hx, zbind_s]
  exact m_failb K 1
theorem m_find2 (I : TI T) (K : MT T q h) (P : PNm r n nm h) (hx : tnm T q = true) (hf : fnd n nm (tl T q) = none) : MF q 2 h (g_X12_needsPerson h 139 (nI r)) := by
  obtain ⟨h', e, k, w⟩ := m_failz (K.vl (k := 35) (by decide) (-1)) 2
  refine ⟨h', ?_, k, (zsm.pi (Or.inr ⟨rfl, Or.inr (Or.inl rfl)⟩)).tr w⟩
  unfold g_X12_needsPerson
  rw [e_isKept I K, hx, zbind_s, if_pos (show zb (!true) = 0 from rfl), P.wd I K hx, hf, zbind_s, zo_none, zlet_e, zpi_s, if_neg (by decide)]
  exact e
theorem m_findY (I : TI T) (K : MT T q h) (P : PNm r n nm h) (hx : tnm T q = true) {p : Nat} (hf : fnd n nm (tl T q) = some p) : ∃ h', g_X12_needsPerson h 139 (nI r) = some (true, h') ∧ MT T q h' ∧ h'.1 139 35 = nI p ∧ zsm (fun a k => a = 139 ∧ k = 35) h h' := by
  have hp := fnd_lt hf
  have := P.1
  refine ⟨zpi h 139 35 (nI p), ?_, K.vl (by decide) _, by rw [zpi_r, if_pos ⟨rfl, rfl⟩], zsm.pi ⟨rfl, rfl⟩⟩
  unfold g_X12_needsPerson
  rw [e_isKept I K, hx, zbind_s, if_pos (show zb (!true) = 0 from rfl), P.wd I K hx, hf, zbind_s, zo_some, zlet_e, zpi_s, if_pos (by rw [zleL_0 (by omega)]; omega)]
theorem PNm.same {A : Nat → Nat → Prop} (P : PNm r n nm h) (x : zsm A h h') (h1 : ∀ k, ¬ A 141 k) (h2 : ∀ k, ¬ A 142 k) : PNm r n nm h' := ⟨P.1, P.2.1, by rw [(x _ _ (h1 _)).1]; exact P.2.2.1, fun p hp => by rw [(x _ _ (h2 _)).2]; exact P.2.2.2.1 p hp, P.2.2.2.2⟩
/-- two people: the first one's name is looked at -/
theorem m_two (I : TI T) (K : MT T q h) (P : PNm r n nm h) : MF q 1 h (g_X12_needsTwo h 139 (nI r)) ∧ tnm T q = false ∨ (MF q 2 h (g_X12_needsTwo h 139 (nI r)) ∧ tnm T q = true ∧ fnd n nm (tl T q) = none) ∨ ∃ p, tnm T q = true ∧ fnd n nm (tl T q) = some p ∧ ((MF (tx T q) 1 h (g_X12_needsTwo h 139 (nI r)) ∧ tnm T (tx T q) = false) ∨ (MF (tx T q) 2 h (g_X12_needsTwo h 139 (nI r)) ∧ tnm T (tx T q) = true ∧ fnd n nm (tl T (tx T q)) = none) ∨ (MF (tx T q) 3 h (g_X12_needsTwo h 139 (nI r)) ∧ tnm T (tx T q) = true ∧ fnd n nm (tl T (tx T q)) = some p) ∨ ∃ p2 h', tnm T (tx T q) = true ∧ fnd n nm (tl T (tx T q)) = some p2 ∧ ¬ p2 = p ∧ g_X12_needsTwo h 139 (nI r) = some (true, h') ∧ MT T (tx T q) h' ∧ h'.1 139 36 = nI p ∧ h'.1 139 35 = nI p2 ∧ zsm AVm h h') := by
  have hn := P.1
  cases hx : tnm T q
  · left
    obtain ⟨h', e, k, w⟩ := m_find1 I K hx (nI r)
    refine ⟨⟨h', ?_, k, w⟩, rfl⟩
    unfold g_X12_needsTwo
    rw [e, zbind_s, zb_f, if_pos rfl]
  · right
    cases hf : fnd n nm (tl T q) with
    | none =>
      left
      obtain ⟨h', e, k, w⟩ := m_find2 I K P hx hf
      refine ⟨⟨h', ?_, k, w⟩, rfl, rfl⟩
      unfold g_X12_needsTwo
      rw [e, zbind_s, zb_f, if_pos rfl]
    | some p =>
      right
      obtain ⟨h1, e1, K1, k1, w1⟩ := m_findY I K P hx hf
      have u1 : zsm AVm h h1 := w1.mono (fun a k z => Or.inr (by omega))
      obtain ⟨h2, e2, K2, w2⟩ := e_next I (K1.vl (k := 36) (by decide) (nI p))
      have u2 : zsm AVm h h2 := (u1.tr (zsm.pi (Or.inr (by omega)))).tr (w2.mono (fun a k z => Or.inl z))
      have P2 : PNm r n nm h2 := P.same u2 (fun k => by unfold AVm AM1; omega) (fun k => by unfold AVm AM1; omega)
      have k36 : h2.1 139 36 = nI p := by rw [(w2 _ _ (by unfold AM1; omega)).1, zpi_r, if_pos ⟨rfl, rfl⟩]
      have eh : g_X12_needsTwo h 139 (nI r) = (g_X12_needsPerson h2 139 (nI r)).bind fun v_5 => if (zb v_5.1) = 0 then (some (false, v_5.2)) else (if (v_5.2.1 139 35) = (v_5.2.1 139 36) then ((g_X12_fails v_5.2 139 3).bind fun v_8 => if (zb v_8.1) = 0 then (some (false, v_8.2)) else (some (true, v_8.2))) else (some (true, v_5.2))) := by
        unfold g_X12_needsTwo
        rw [e1, zbind_s, zb_t, if_neg (by decide), k1, zlet_e, e2, zbind_s]
      refine ⟨p, rfl, rfl, ?_⟩
      rw [eh]
      cases hx2 : tnm T (tx T q)
      · left
        obtain ⟨h', e, k, w⟩ := m_find1 I K2 hx2 (nI r)
        exact ⟨⟨h', by rw [e]; rfl, k, u2.tr w⟩, rfl⟩
      · right
        cases hf2 : fnd n nm (tl T (tx T q)) with
        | none =>
          left
          obtain ⟨h', e, k, w⟩ := m_find2 I K2 P2 hx2 hf2
          exact ⟨⟨h', by rw [e]; rfl, k, u2.tr w⟩, rfl, rfl⟩
        | some p2 =>
          right
          obtain ⟨h3, e3, K3, k3, w3⟩ := m_findY I K2 P2 hx2 hf2
          have u3 : zsm AVm h h3 := u2.tr (w3.mono (fun a k z => Or.inr (by omega)))
          have j36 : h3.1 139 36 = nI p := by rw [(w3 _ _ (by omega)).1]; exact k36
          have l1 := fnd_lt hf
          have l2 := fnd_lt hf2
          rw [e3, zbind_s, zb_t, if_neg (by decide), k3, j36]
          simp only [znI_eq (show p2 < 2147483648 by omega) (show p < 2147483648 by omega)]
          by_cases c : p2 = p
          · left
            obtain ⟨h', e, k, w⟩ := m_failz K3 3
            rw [if_pos c]
            exact ⟨⟨h', e, k, u3.tr w⟩, trivial, by rw [c]⟩
          · right
            rw [if_neg c]
            exact ⟨p2, h3, trivial, rfl, c, rfl, K3, j36, k3, u3⟩
theorem m_bothW1 (I : TI T) (K : MT T q h) {i : Nat} (hi : i < 30) (w : Int64) (e : w = w27 ((zwds.getD i []).map (fun c => c - 96))) (hx : ¬ tc T q = 12 + i) (lo hi2 : Int32) : MF q 1 h (g_X12_needsBoth h 139 w lo hi2) := by
  unfold g_X12_needsBoth
  rw [e_isWord I K hi w e, zbind_s, decide_eq_false hx, zb_f, if_pos rfl]
  exact m_failb K 1
theorem m_bothW (I : TI T) (K : MT T q h) {i : Nat} (hi : i < 30) (w : Int64) (e : w = w27 ((zwds.getD i []).map (fun c => c - 96))) (hx : tc T q = 12 + i) (lo hi2 : Int32) : ∃ h', MT T (tx T q) h' ∧ zsm AM1 h h' ∧ g_X12_needsBoth h 139 w lo hi2 = (g_X12_needsNumber h' 139 lo hi2).bind fun v_4 => some (v_4.1, v_4.2) := by
  obtain ⟨h3, e3, K3, w3⟩ := e_next I K
  refine ⟨h3, K3, w3, ?_⟩
  unfold g_X12_needsBoth
  rw [e_isWord I K hi w e, zbind_s, decide_eq_true hx, zb_t, if_neg (by decide), e3, zbind_s]
theorem MF.b {c : Nat} {x : Option (Bool × zH)} (H : MF q c h x) : MF q c h (x.bind fun v => some (v.1, v.2)) := by
  obtain ⟨h', e, k, w⟩ := H
  exact ⟨h', by rw [e]; rfl, k, w⟩
theorem MF.z {c : Nat} {x : Option (Bool × zH)} (H : MF q c h x) (f : zH → Option (Bool × zH)) : MF q c h (x.bind fun v => if (zb v.1) = 0 then (some (false, v.2)) else f v.2) := by
  obtain ⟨h', e, k, w⟩ := H
  exact ⟨h', by rw [e]; rfl, k, w⟩
theorem CF.z {t c : Nat} {x : Option (Bool × zH)} (H : CF t q c h x) (f : zH → Option (Bool × zH)) : CF t q c h (x.bind fun v => if (zb v.1) = 0 then (some (false, v.2)) else f v.2) := by
  obtain ⟨h', e, k, w⟩ := H
  exact ⟨h', by rw [e]; rfl, k, w⟩
end N2
