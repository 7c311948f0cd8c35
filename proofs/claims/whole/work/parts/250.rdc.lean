/-! reading: what the class takes, token by token -/
theorem zpi_s (h : zH) (t k : Nat) (x : Int32) : (zpi h t k x).1 t k = x := by rw [zpi_r, if_pos ⟨rfl, rfl⟩]
def fndF (nm : Nat → List Nat) (l : List Nat) : Nat → Nat → Option Nat
  | 0, _ => none
  | k + 1, i => if nm i = l then some i else fndF nm l k (i + 1)
/-- whose name it is -/
def fnd (n : Nat) (nm : Nat → List Nat) (l : List Nat) : Option Nat := fndF nm l n 0
theorem fndF_some {nm : Nat → List Nat} {l : List Nat} : ∀ k i p, fndF nm l k i = some p → i ≤ p ∧ p < i + k ∧ nm p = l := by
  intro k
  induction k with
  | zero => intro i p z; cases z
  | succ k ih =>
    intro i p z
    rw [fndF] at z
    by_cases c : nm i = l
    · rw [if_pos c] at z; cases z; exact ⟨Nat.le_refl _, by omega, c⟩
    · rw [if_neg c] at z
      obtain ⟨a, b, d⟩ := ih _ _ z
      exact ⟨by omega, by omega, d⟩
theorem fnd_lt {n : Nat} {nm : Nat → List Nat} {l : List Nat} {p : Nat} (z : fnd n nm l = some p) : p < n := by
  have := (fndF_some n 0 p z).2.1
  omega
/-- a reader, its republic, the names there -/
def RD (t r a : Nat) : Prop := zR t 0 = 1 ∧ zR t 1 = r ∧ zR r 0 = a ∧ 13 ≤ t
theorem rd13 : RD 13 14 15 := by unfold RD; decide +kernel
theorem rd26 : RD 26 3 4 := by unfold RD; decide +kernel
/-- what taking tokens writes: in the class, in the reference -/
def AV (t : Nat) : Nat → Nat → Prop := fun a k => AT1 a k ∨ (a = t ∧ (k = 2 ∨ k = 3))
def AVm : Nat → Nat → Prop := fun a k => AM1 a k ∨ (a = 139 ∧ (k = 9 ∨ k = 35 ∨ k = 36))
def CF (t q c : Nat) (h : zH) (x : Option (Bool × zH)) : Prop := ∃ h', x = some (false, h') ∧ h'.1 t 3 = nI (c + 16 * q) ∧ zsm (AV t) h h'
def MF (q c : Nat) (h : zH) (x : Option (Bool × zH)) : Prop := ∃ h', x = some (false, h') ∧ h'.1 139 9 = nI (c + 16 * q) ∧ zsm AVm h h'
section N1
variable {T : zTp} {q t r a n : Nat} {h h' : zH} {nm : Nat → List Nat}
theorem CT.av (K : CT T q h) (x : zsm (AV t) h h') (ht : 13 ≤ t) (h1 : h'.1 1 2 = h.1 1 2 ∧ h'.1 1 3 = h.1 1 3 ∧ h'.1 1 4 = h.1 1 4 ∧ h'.1 1 5 = h.1 1 5) : CT T q h' := by
  obtain ⟨k1, k2, k3, k4, k5, k6⟩ := K
  obtain ⟨e2, e3, e4, e5⟩ := h1
  exact ⟨k1.same x (by unfold AV AT1; omega) (fun k => by unfold AV AT1; omega), k2, by rw [e3]; exact k3, by rw [e5]; exact k4, by rw [e2]; exact k5, fun z => by rw [e4]; exact k6 z⟩
theorem CT.vl (K : CT T q h) (ht : 13 ≤ t) (k : Nat) (v : Int32) : CT T q (zpi h t k v) := K.same (A := fun a _ => a = t) (zsm.pi rfl) (fun k => by omega) (fun k => by omega)
theorem c_fail (X : RD t r a) (K : CT T q h) (c : Nat) : CF t q c h (g_X4_fail_c5 h t (nI c)) := by
  refine ⟨zpi h t 3 (nI (c + 16 * q)), ?_, by rw [zpi_r, if_pos ⟨rfl, rfl⟩], zsm.pi (Or.inr ⟨rfl, Or.inr rfl⟩)⟩
  unfold g_X4_fail_c5
  rw [X.1, K.2.2.1, zmL_16, nI_add, zlet_e]
theorem c_failb (X : RD t r a) (K : CT T q h) (c : Nat) : CF t q c h ((g_X4_fail_c5 h t (nI c)).bind fun v_5 => some (v_5.1, v_5.2)) := by
  obtain ⟨h', e, k, w⟩ := c_fail X K c
  exact ⟨h', by rw [e]; rfl, k, w⟩
theorem c_failz (X : RD t r a) (K : CT T q h) (c : Nat) : CF t q c h ((g_X4_fail_c5 h t (nI c)).bind fun v_7 => if (zb v_7.1) = 0 then (some (false, v_7.2)) else (some (true, v_7.2))) := by
  obtain ⟨h', e, k, w⟩ := c_fail X K c
  exact ⟨h', by rw [e]; rfl, k, w⟩
theorem c_takeY (X : RD t r a) (I : TI T) (K : CT T q h) {x : Nat} (hx : tc T q = x) : ∃ h', g_X4_take_c5 h t (nI x) = some (true, h') ∧ CT T (tx T q) h' ∧ zsm AT1 h h' := by
  obtain ⟨h2, e2, K2, w2⟩ := e_look I K
  refine ⟨h2, ?_, K2, w2⟩
  unfold g_X4_take_c5
  rw [X.1, K.2.2.2.2.1, hx, if_pos rfl, e2, zbind_s]
theorem c_takeN (X : RD t r a) (K : CT T q h) {x : Nat} (hx : ¬ tc T q = x) (hb : x < 100) : CF t q 1 h (g_X4_take_c5 h t (nI x)) := by
  have := tc_lt T q
  unfold g_X4_take_c5
  rw [X.1, K.2.2.2.2.1, if_neg (by rw [znI_eq (by omega) (by omega)]; exact hx)]
  exact c_failb X K 1
theorem c_num1 (X : RD t r a) (K : CT T q h) (hx : ¬ tc T q = 3) (lo hi : Int32) : CF t q 1 h (g_X4_takeNumber_c5 h t lo hi) := by
  have := tc_lt T q
  unfold g_X4_takeNumber_c5
  rw [X.1, K.2.2.2.2.1, if_neg (by rw [zeq_3 (by omega)]; exact hx)]
  exact c_failb X K 1
theorem c_num4 (X : RD t r a) (I : TI T) (K : CT T q h) (hx : tc T q = 3) {lo hi : Nat} (h9 : lo < 1000) (h8 : hi < 1000) (hb : tn T q < lo ∨ hi < tn T q) : CF t q 4 h (g_X4_takeNumber_c5 h t (nI lo) (nI hi)) := by
  have htn := tn_lt I K.2.1 hx
  unfold g_X4_takeNumber_c5
  rw [X.1, K.2.2.2.2.1, hx, if_pos (show nI 3 = 3 from rfl), K.2.2.2.2.2 hx]
  simp only [znI_lt (show tn T q < 2147483648 by omega) (show lo < 2147483648 by omega), znI_le (show tn T q < 2147483648 by omega) (show hi < 2147483648 by omega)]
  have e : CF t q 4 h (g_X4_takeNumber_c5_39 t h) := c_failb X K 4
  by_cases c : tn T q < lo
  · rw [if_pos c]; exact e
  · rw [if_neg c, if_neg (by omega)]; exact e
theorem c_numY (X : RD t r a) (I : TI T) (K : CT T q h) (hx : tc T q = 3) {lo hi : Nat} (h9 : lo < 1000) (h8 : hi < 1000) (h1 : lo ≤ tn T q) (h2 : tn T q ≤ hi) : ∃ h', g_X4_takeNumber_c5 h t (nI lo) (nI hi) = some (true, h') ∧ CT T (tx T q) h' ∧ h'.1 t 2 = nI (tn T q) ∧ zsm (AV t) h h' := by
  have htn := tn_lt I K.2.1 hx
  have ht := X.2.2.2
  obtain ⟨h3, e3, K3, w3⟩ := e_look I (K.vl ht 2 (nI (tn T q)))
  refine ⟨h3, ?_, K3, by rw [(w3 _ _ (by unfold AT1; omega)).1, zpi_r, if_pos ⟨rfl, rfl⟩], (zsm.pi (Or.inr ⟨rfl, Or.inl rfl⟩)).tr (w3.mono (fun a k z => Or.inl z))⟩
  unfold g_X4_takeNumber_c5
  rw [X.1, K.2.2.2.2.1, hx, if_pos (show nI 3 = 3 from rfl), K.2.2.2.2.2 hx]
  simp only [znI_lt (show tn T q < 2147483648 by omega) (show lo < 2147483648 by omega), znI_le (show tn T q < 2147483648 by omega) (show hi < 2147483648 by omega)]
  rw [if_neg (by omega), if_pos h2, zlet_e, e3, zbind_s]
theorem e_numberOf2 (hz : zR r 0 = a) (hn : n ≤ 7) (h7 : h.1 r 7 = nI n) (hnm : ∀ p, p < n → h.2 a p = w32 (nm p)) (hW : ∀ p, p < n → WI (nm p)) {l : List Nat} (hl : WI l) : ∀ k i m, i + k = n → k < m → g_X5_numberOf_2 h r m (w32 l) (nI i) = some (zo (fndF nm l k i)) := by
  intro k
  induction k with
  | zero =>
    intro i m hi hm
    obtain ⟨m, rfl⟩ : ∃ m', m = m' + 1 := ⟨m - 1, by omega⟩
    rw [g_X5_numberOf_2, h7, if_pos (by rw [znI_le (by omega) (by omega)]; omega)]; rfl
  | succ k ih =>
    intro i m hi hm
    obtain ⟨m, rfl⟩ : ∃ m', m = m' + 1 := ⟨m - 1, by omega⟩
    rw [g_X5_numberOf_2, h7, if_neg (by rw [znI_le (by omega) (by omega)]; omega), zin_t (by omega) (by omega), zgu_t, zx_nI (by omega), hz, hnm i (by omega), fndF]
    simp only [lg_cmp_eq, w32_inj (hW i (by omega)) hl]
    by_cases c : nm i = l
    · rw [if_pos c, if_pos c]; rfl
    · rw [if_neg c, if_neg c, nI_1]
      exact ih (i + 1) m (by omega) (by omega)
/-- the people that a reader knows -/
def PN (r a n : Nat) (nm : Nat → List Nat) (h : zH) : Prop := n ≤ 7 ∧ h.1 r 7 = nI n ∧ (∀ p, p < n → h.2 a p = w32 (nm p)) ∧ ∀ p, p < n → WI (nm p)
theorem PN.num (X : RD t r a) (P : PN r a n nm h) {l : List Nat} (hl : WI l) : g_X5_numberOf h r (w32 l) = some (zo (fnd n nm l)) := e_numberOf2 X.2.2.1 P.1 P.2.1 P.2.2.1 P.2.2.2 hl n 0 zfu (by omega) (by have := P.1; show _ < 4000; omega)
theorem c_find1 (X : RD t r a) (K : CT T q h) (hx : tnm T q = false) : CF t q 1 h (g_X4_findPerson_c5 h t) := by
  unfold g_X4_findPerson_c5
  rw [X.1, e_isName K, hx, zbind_s, zb_f, if_pos rfl]
  exact c_failb X K 1
theorem c_find2 (X : RD t r a) (I : TI T) (K : CT T q h) (P : PN r a n nm h) (hx : tnm T q = true) (hf : fnd n nm (tl T q) = none) : CF t q 2 h (g_X4_findPerson_c5 h t) := by
  have hw := tnm_wd hx
  have hW := (wd_prop I K.2.1 hw).2.2.2.2
  have ht := X.2.2.2
  obtain ⟨h', e, k, w⟩ := c_failz X (K.vl ht 2 (-1)) 2
  refine ⟨h', ?_, k, (zsm.pi (Or.inr ⟨rfl, Or.inl rfl⟩)).tr w⟩
  unfold g_X4_findPerson_c5
  rw [X.1, X.2.1, e_isName K, hx, zbind_s, zb_t, if_neg (by decide), e_packed I K hw, zbind_s, P.num X hW, hf, zbind_s, zo_none, zlet_e, zpi_s, if_pos rfl]
  exact e
theorem c_findY (X : RD t r a) (I : TI T) (K : CT T q h) (P : PN r a n nm h) (hx : tnm T q = true) {p : Nat} (hf : fnd n nm (tl T q) = some p) : ∃ h', g_X4_findPerson_c5 h t = some (true, h') ∧ CT T q h' ∧ h'.1 t 2 = nI p ∧ zsm (fun a k => a = t ∧ k = 2) h h' := by
  have hw := tnm_wd hx
  have hW := (wd_prop I K.2.1 hw).2.2.2.2
  have ht := X.2.2.2
  have hp := fnd_lt hf
  have := P.1
  refine ⟨zpi h t 2 (nI p), ?_, K.vl ht 2 (nI p), by rw [zpi_r, if_pos ⟨rfl, rfl⟩], zsm.pi ⟨rfl, rfl⟩⟩
  unfold g_X4_findPerson_c5
  rw [X.1, X.2.1, e_isName K, hx, zbind_s, zb_t, if_neg (by decide), e_packed I K hw, zbind_s, P.num X hW, hf, zbind_s, zo_some, zlet_e, zpi_s, if_neg (by rw [znI_neg (by omega)]; exact id)]
theorem c_other1 (X : RD t r a) (K : CT T q h) (hx : tnm T q = false) (p0 : Int32) : CF t q 1 h (g_X4_findOther_c5 h t p0) := by
  obtain ⟨h', e, k, w⟩ := c_find1 X K hx
  refine ⟨h', ?_, k, w⟩
  unfold g_X4_findOther_c5
  rw [e, zbind_s, zb_f, if_pos rfl]
theorem c_other2 (X : RD t r a) (I : TI T) (K : CT T q h) (P : PN r a n nm h) (hx : tnm T q = true) (hf : fnd n nm (tl T q) = none) (p0 : Int32) : CF t q 2 h (g_X4_findOther_c5 h t p0) := by
  obtain ⟨h', e, k, w⟩ := c_find2 X I K P hx hf
  refine ⟨h', ?_, k, w⟩
  unfold g_X4_findOther_c5
  rw [e, zbind_s, zb_f, if_pos rfl]
theorem c_other3 (X : RD t r a) (I : TI T) (K : CT T q h) (P : PN r a n nm h) (hx : tnm T q = true) {p : Nat} (hf : fnd n nm (tl T q) = some p) : CF t q 3 h (g_X4_findOther_c5 h t (nI p)) := by
  obtain ⟨h1, e, K1, k, w⟩ := c_findY X I K P hx hf
  obtain ⟨h', e2, k2, w2⟩ := c_failz X K1 3
  refine ⟨h', ?_, k2, (w.mono (fun a k z => Or.inr (by omega))).tr w2⟩
  unfold g_X4_findOther_c5
  rw [e, zbind_s, zb_t, if_neg (by decide), k, if_pos rfl]
  exact e2
theorem c_otherY (X : RD t r a) (I : TI T) (K : CT T q h) (P : PN r a n nm h) (hx : tnm T q = true) {p p0 : Nat} (hf : fnd n nm (tl T q) = some p) (h0 : p0 < 7) (hne : ¬ p = p0) : ∃ h', g_X4_findOther_c5 h t (nI p0) = some (true, h') ∧ CT T q h' ∧ h'.1 t 2 = nI p ∧ zsm (fun a k => a = t ∧ k = 2) h h' := by
  obtain ⟨h1, e, K1, k, w⟩ := c_findY X I K P hx hf
  have hp := fnd_lt hf
  have := P.1
  refine ⟨h1, ?_, K1, k, w⟩
  unfold g_X4_findOther_c5
  rw [e, zbind_s, zb_t, if_neg (by decide), k, if_neg (by rw [znI_eq (by omega) (by omega)]; exact hne)]
theorem c9_fail : g_X4_fail_c9 = g_X4_fail_c5 := rfl
theorem c9_take : g_X4_take_c9 = g_X4_take_c5 := rfl
theorem c9_find : g_X4_findPerson_c9 = g_X4_findPerson_c5 := rfl
theorem c9_other : g_X4_findOther_c9 = g_X4_findOther_c5 := rfl
end N1
