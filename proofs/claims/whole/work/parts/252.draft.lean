/-! reading: the draft of a republic, in class and reference -/
/-- a republic, names, told grudges, what was told once (bar, dead, ties) -/
abbrev zDr : Type := zRp × (Nat → List Nat) × (Nat → Option Nat) × (Nat → Bool)
abbrev dR (D : zDr) : zRp := D.1
abbrev dnm (D : zDr) : Nat → List Nat := D.2.1
abbrev dgr (D : zDr) : Nat → Option Nat := D.2.2.1
abbrev don (D : zDr) : Nat → Bool := D.2.2.2
def onc (D : zDr) (i : Nat) : Bool := if i = 3 then (rg (dR D)).isSome else if i = 4 then (rs (dR D)).isSome else don D i
def DI (D : zDr) : Prop := RI (dR D) ∧ (∀ p, rn (dR D) ≤ p → rh (dR D) p = none) ∧ (∀ p, p < rn (dR D) → WI (dnm D p)) ∧ ∀ k g, dgr D k = some g → g ≤ 9
def DLc (g : zLaw) (h : zH) (i len : Nat) : Prop := match g with
  | none => h.1 21 i = h.1 21 (i + 1)
  | some f => ∃ (b : Nat) (cc : List Int32) (F : Fn), f = (fun a b c d => F (a, b, c, d)) ∧ PO cc (fun e => [F e]) ∧ b + cc.length ≤ len ∧ h.1 21 i = nI b ∧ h.1 21 (i + 1) = nI (b + cc.length) ∧ ∀ j, j < cc.length → h.1 22 (b + j) = cc.getD j 0
def DLm (g : zLaw) (h : zH) (i len : Nat) : Prop := match g with
  | none => h.1 149 i = nI 1000 ∧ h.1 150 i = nI 1000
  | some f => ∃ (b : Nat) (rc : List Int32) (fr : Fr) (v : Fn), f = (fun a b c d => fv fr v (a, b, c, d)) ∧ IN rc [fr] ∧ fc fr = some v ∧ b + rc.length ≤ len ∧ h.1 149 i = nI (1000 + b) ∧ h.1 150 i = nI (1000 + b + rc.length) ∧ ∀ j, j < rc.length → h.1 151 (1000 + b + j) = rc.getD j 0
def DCr (R : zRp) (h : zH) : Prop := h.1 14 7 = nI (rn R) ∧ h.1 14 8 = nI (rb R) ∧ h.1 14 9 = zb (rl R) ∧ h.1 14 10 = zb (ry R) ∧ (∀ p, p < rn R → h.1 16 p = nI (rk R p)) ∧ (∀ p, p < rn R → h.1 17 p = nI (ra R p)) ∧ (∀ p, p < rn R → h.1 18 p = nI (re R p)) ∧ ∀ p, p < 7 → h.1 19 p = zo (rh R p)
def DMr (R : zRp) (h : zH) : Prop := h.1 141 4 = nI (rn R) ∧ h.1 141 5 = nI (rb R) ∧ h.1 141 6 = zb (rl R) ∧ h.1 141 7 = zb (ry R) ∧ (∀ p, p < rn R → h.1 143 (7 + p) = nI (rk R p)) ∧ (∀ p, p < rn R → h.1 144 (7 + p) = nI (ra R p)) ∧ (∀ p, p < rn R → h.1 145 (7 + p) = nI (re R p)) ∧ ∀ p, p < rn R → h.1 146 (7 + p) = zo (rh R p)
def DCd (D : zDr) (q : Nat) (h : zH) : Prop := DCr (dR D) h ∧ (∀ k, k < 49 → h.1 20 k = zo (dgr D k)) ∧ (∀ p, p < rn (dR D) → h.2 15 p = w32 (dnm D p)) ∧ (∃ m, m < 32 ∧ h.1 13 5 = nI m ∧ ∀ i, i < 5 → m.testBit i = onc D i) ∧ ∃ len, len ≤ q ∧ h.1 21 7 = nI len ∧ DLc (rg (dR D)) h 8 len ∧ DLc (rs (dR D)) h 10 len
def DMd (D : zDr) (q : Nat) (h : zH) : Prop := DMr (dR D) h ∧ (∀ k, k < 49 → h.1 148 k = zb (dgr D k).isSome ∧ h.1 147 (49 + k) = nI ((dgr D k).getD 0)) ∧ (∀ p, p < rn (dR D) → h.2 142 (7 + p) = w27 (dnm D p)) ∧ (∃ m, m < 16 ∧ h.1 139 22 = nI m ∧ ∀ i, i < 3 → m.testBit (i + 1) = don D i) ∧ ∃ len, len ≤ q ∧ h.1 139 21 = nI (1000 + len) ∧ DLm (rg (dR D)) h 2 len ∧ DLm (rs (dR D)) h 3 len
/-- what reading a republic writes -/
def AWc : Nat → Nat → Prop := fun a k => (a = 1 ∧ 2 ≤ k ∧ k ≤ 5) ∨ (13 ≤ a ∧ a ≤ 25)
def AWm : Nat → Nat → Prop := fun a k => (a = 139 ∧ ((4 ≤ k ∧ k ≤ 9) ∨ k = 21 ∨ k = 22 ∨ k = 35 ∨ k = 36)) ∨ (a = 141 ∧ 4 ≤ k) ∨ (142 ≤ a ∧ a ≤ 146 ∧ 7 ≤ k) ∨ (a = 147 ∧ 49 ≤ k) ∨ a = 148 ∨ ((a = 149 ∨ a = 150) ∧ 2 ≤ k) ∨ (a = 151 ∧ 1000 ≤ k) ∨ a = 152 ∨ a = 153
/-- a line of the class, with its end -/
def clin (h : zH) : Option (Bool × zH) := (g_X6_readLine h 13).bind fun v_7 => if (zb v_7.1) = 0 then (some (false, v_7.2)) else ((g_X4_take_c5 v_7.2 13 11).bind fun v_9 => some (v_9.1, v_9.2))
def JL (T : zTp) (q : Nat) (hc hm : zH) (a b : Option (Bool × zH)) : Prop :=
  (∃ f hc' hm', 0 < f ∧ f < 20000 ∧ a = some (false, hc') ∧ hc'.1 13 3 = nI f ∧ zsm AWc hc hc' ∧ b = some (false, hm') ∧ hm'.1 139 9 = nI f ∧ zsm AWm hm hm') ∨ (∃ D q' hc' hm', q < q' ∧ DI D ∧ a = some (true, hc') ∧ CT T q' hc' ∧ DCd D q' hc' ∧ zsm AWc hc hc' ∧ b = some (true, hm') ∧ MT T q' hm' ∧ DMd D q' hm' ∧ zsm AWm hm hm')
section N3
variable {T : zTp} {q q1 : Nat} {h h' hc hm hc1 hm1 : zH} {A : Nat → Nat → Prop} {D : zDr} {R : zRp} {g : zLaw} {i len : Nat}
theorem DCr.same (H : DCr R h) (x : zsm A h h') (hA : ∀ a k, 14 ≤ a → a ≤ 22 → ¬ A a k) : DCr R h' := by
  obtain ⟨h1, h2, h3, h4, h5, h6, h7, h8⟩ := H
  exact ⟨by rw [(x _ _ (hA _ _ (by omega) (by omega))).1]; exact h1, by rw [(x _ _ (hA _ _ (by omega) (by omega))).1]; exact h2, by rw [(x _ _ (hA _ _ (by omega) (by omega))).1]; exact h3, by rw [(x _ _ (hA _ _ (by omega) (by omega))).1]; exact h4, fun p hp => by rw [(x _ _ (hA _ _ (by omega) (by omega))).1]; exact h5 p hp, fun p hp => by rw [(x _ _ (hA _ _ (by omega) (by omega))).1]; exact h6 p hp, fun p hp => by rw [(x _ _ (hA _ _ (by omega) (by omega))).1]; exact h7 p hp, fun p hp => by rw [(x _ _ (hA _ _ (by omega) (by omega))).1]; exact h8 p hp⟩
theorem DMr.same (H : DMr R h) (x : zsm A h h') (hA : ∀ a k, 141 ≤ a → a ≤ 151 → ¬ A a k) : DMr R h' := by
  obtain ⟨h1, h2, h3, h4, h5, h6, h7, h8⟩ := H
  exact ⟨by rw [(x _ _ (hA _ _ (by omega) (by omega))).1]; exact h1, by rw [(x _ _ (hA _ _ (by omega) (by omega))).1]; exact h2, by rw [(x _ _ (hA _ _ (by omega) (by omega))).1]; exact h3, by rw [(x _ _ (hA _ _ (by omega) (by omega))).1]; exact h4, fun p hp => by rw [(x _ _ (hA _ _ (by omega) (by omega))).1]; exact h5 p hp, fun p hp => by rw [(x _ _ (hA _ _ (by omega) (by omega))).1]; exact h6 p hp, fun p hp => by rw [(x _ _ (hA _ _ (by omega) (by omega))).1]; exact h7 p hp, fun p hp => by rw [(x _ _ (hA _ _ (by omega) (by omega))).1]; exact h8 p hp⟩
theorem DLc.same (H : DLc g h i len) (e1 : h'.1 21 i = h.1 21 i) (e2 : h'.1 21 (i + 1) = h.1 21 (i + 1)) (hA : ∀ k, k < len → h'.1 22 k = h.1 22 k) : DLc g h' i len := by
  cases g with
  | none => show h'.1 21 i = h'.1 21 (i + 1); rw [e1, e2]; exact H
  | some f =>
    obtain ⟨b, cc, F, h1, h2, h3, h4, h5, h6⟩ := H
    exact ⟨b, cc, F, h1, h2, h3, by rw [e1]; exact h4, by rw [e2]; exact h5, fun j hj => by rw [hA _ (by omega)]; exact h6 j hj⟩
theorem DLc.up (H : DLc g h i len) {len' : Nat} (hl : len ≤ len') : DLc g h i len' := by
  cases g with
  | none => exact H
  | some f =>
    obtain ⟨b, cc, F, h1, h2, h3, h4⟩ := H
    exact ⟨b, cc, F, h1, h2, by omega, h4⟩
theorem DLm.same (H : DLm g h i len) (e1 : h'.1 149 i = h.1 149 i) (e2 : h'.1 150 i = h.1 150 i) (hA : ∀ k, k < len → h'.1 151 (1000 + k) = h.1 151 (1000 + k)) : DLm g h' i len := by
  cases g with
  | none => exact ⟨by rw [e1]; exact H.1, by rw [e2]; exact H.2⟩
  | some f =>
    obtain ⟨b, rc, fr, v, h1, h2, h3, h4, h5, h6, h7⟩ := H
    exact ⟨b, rc, fr, v, h1, h2, h3, h4, by rw [e1]; exact h5, by rw [e2]; exact h6, fun j hj => by rw [show 1000 + b + j = 1000 + (b + j) by omega, hA _ (by omega), ← show 1000 + b + j = 1000 + (b + j) by omega]; exact h7 j hj⟩
theorem DLm.up (H : DLm g h i len) {len' : Nat} (hl : len ≤ len') : DLm g h i len' := by
  cases g with
  | none => exact H
  | some f =>
    obtain ⟨b, rc, fr, v, h1, h2, h3, h4, h5⟩ := H
    exact ⟨b, rc, fr, v, h1, h2, h3, by omega, h5⟩
theorem DCd.same (H : DCd D q h) (x : zsm A h h') (h13 : ¬ A 13 5) (hA : ∀ a k, 14 ≤ a → a ≤ 22 → ¬ A a k) (hq : q ≤ q1) : DCd D q1 h' := by
  obtain ⟨h1, h2, h3, ⟨m, m1, m2, m3⟩, len, l1, l2, l3, l4⟩ := H
  exact ⟨h1.same x hA, fun k hk => by rw [(x _ _ (hA _ _ (by omega) (by omega))).1]; exact h2 k hk, fun p hp => by rw [(x _ _ (hA _ _ (by omega) (by omega))).2]; exact h3 p hp, ⟨m, m1, by rw [(x _ _ h13).1]; exact m2, m3⟩, len, by omega, by rw [(x _ _ (hA _ _ (by omega) (by omega))).1]; exact l2, l3.same (x _ _ (hA _ _ (by omega) (by omega))).1 (x _ _ (hA _ _ (by omega) (by omega))).1 (fun k _ => (x _ _ (hA _ _ (by omega) (by omega))).1), l4.same (x _ _ (hA _ _ (by omega) (by omega))).1 (x _ _ (hA _ _ (by omega) (by omega))).1 (fun k _ => (x _ _ (hA _ _ (by omega) (by omega))).1)⟩
theorem DMd.same (H : DMd D q h) (x : zsm A h h') (h21 : ¬ A 139 21) (h22 : ¬ A 139 22) (hA : ∀ a k, 141 ≤ a → a ≤ 151 → ¬ A a k) (hq : q ≤ q1) : DMd D q1 h' := by
  obtain ⟨h1, h2, h3, ⟨m, m1, m2, m3⟩, len, l1, l2, l3, l4⟩ := H
  exact ⟨h1.same x hA, fun k hk => ⟨by rw [(x _ _ (hA _ _ (by omega) (by omega))).1]; exact (h2 k hk).1, by rw [(x _ _ (hA _ _ (by omega) (by omega))).1]; exact (h2 k hk).2⟩, fun p hp => by rw [(x _ _ (hA _ _ (by omega) (by omega))).2]; exact h3 p hp, ⟨m, m1, by rw [(x _ _ h22).1]; exact m2, m3⟩, len, by omega, by rw [(x _ _ h21).1]; exact l2, l3.same (x _ _ (hA _ _ (by omega) (by omega))).1 (x _ _ (hA _ _ (by omega) (by omega))).1 (fun k _ => (x _ _ (hA _ _ (by omega) (by omega))).1), l4.same (x _ _ (hA _ _ (by omega) (by omega))).1 (x _ _ (hA _ _ (by omega) (by omega))).1 (fun k _ => (x _ _ (hA _ _ (by omega) (by omega))).1)⟩
theorem DCd.av (H : DCd D q h) (x : zsm (AV 13) h h') (hq : q ≤ q1) : DCd D q1 h' := H.same x (by unfold AV AT1; omega) (fun a k _ _ => by unfold AV AT1; omega) hq
theorem DMd.av (H : DMd D q h) (x : zsm AVm h h') (hq : q ≤ q1) : DMd D q1 h' := H.same x (by unfold AVm AM1; omega) (by unfold AVm AM1; omega) (fun a k _ _ => by unfold AVm AM1; omega) hq
theorem av_wc {a k : Nat} (z : AV 13 a k) : AWc a k := by unfold AV AT1 at z; unfold AWc; omega
theorem av_wm {a k : Nat} (z : AVm a k) : AWm a k := by unfold AVm AM1 at z; unfold AWm; omega
theorem DCd.pn (H : DCd D q h) (J : DI D) : PN 14 15 (rn (dR D)) (dnm D) h := ⟨J.1.1, H.1.1, H.2.2.1, J.2.2.1⟩
theorem DMd.pn (H : DMd D q h) (J : DI D) : PNm 1 (rn (dR D)) (dnm D) h := ⟨J.1.1, by decide, H.1.1, H.2.2.1, J.2.2.1⟩
/-- both say the same fault -/
theorem JL.fl {c : Nat} {a0 b : Option (Bool × zH)} (I : TI T) (hq : q1 ≤ T.1) (hc0 : 0 < c) (hc1' : c < 6) (w1 : zsm AWc hc hc1) (x1 : CF 13 q1 c hc1 a0) (e : g_X6_readLine hc 13 = a0) (w2 : zsm AWm hm hm1) (x2 : MF q1 c hm1 b) : JL T q hc hm (clin hc) b := by
  have l := I.1
  obtain ⟨h1, e1, k1, u1⟩ := x1
  obtain ⟨h2, e2, k2, u2⟩ := x2
  refine Or.inl ⟨c + 16 * q1, h1, h2, by omega, by omega, ?_, k1, w1.tr (u1.mono (fun a k z => av_wc z)), e2, k2, w2.tr (u2.mono (fun a k z => av_wm z))⟩
  unfold clin
  rw [e, e1, zbind_s, zb_f, if_pos rfl]
/-- a line's end -/
theorem JL.cl {b : Option (Bool × zH)} (I : TI T) (J : DI D) (hq : q < q1) (w1 : zsm AWc hc hc1) (e : g_X6_readLine hc 13 = some (true, hc1)) (K1 : CT T q1 hc1) (C : DCd D q1 hc1) (w2 : zsm AWm hm hm1) (e2 : b = (g_X12_closes hm1 139).bind fun v_14 => some (v_14.1, v_14.2)) (K2 : MT T q1 hm1) (M : DMd D q1 hm1) : JL T q hc hm (clin hc) b := by
  have l := I.1
  have hq1 := K1.2.1
  have tp := tx_prop (T := T) hq1
  by_cases c : tc T q1 = 11
  · obtain ⟨h3, e3, K3, u3⟩ := c_takeY rd13 I K1 c
    obtain ⟨h4, e4, K4, u4⟩ := m_closesY I K2 c
    refine Or.inr ⟨D, tx T q1, h3, h4, by omega, J, ?_, K3, C.av (u3.mono (fun a k z => Or.inl z)) tp.1, w1.tr (u3.mono (fun a k z => av_wc (Or.inl z))), by rw [e2, e4]; rfl, K4, M.av (u4.mono (fun a k z => Or.inl z)) tp.1, w2.tr (u4.mono (fun a k z => av_wm (Or.inl z)))⟩
    have e3' : g_X4_take_c5 hc1 13 11 = some (true, h3) := e3
    unfold clin
    rw [e, zbind_s, zb_t, if_neg (by decide), e3', zbind_s]
  · obtain ⟨h3, e3, k3, u3⟩ := c_takeN rd13 K1 c (by decide)
    obtain ⟨h4, e4, k4, u4⟩ := m_closesN I K2 c
    refine Or.inl ⟨1 + 16 * q1, h3, h4, by omega, by omega, ?_, k3, w1.tr (u3.mono (fun a k z => av_wc z)), by rw [e2, e4]; rfl, k4, w2.tr (u4.mono (fun a k z => av_wm z))⟩
    have e3' : g_X4_take_c5 hc1 13 11 = some (false, h3) := e3
    unfold clin
    rw [e, zbind_s, zb_t, if_neg (by decide), e3', zbind_s]
theorem zonc : ∀ m, m < 32 → ∀ i, i < 5 → ((nI m &&& ((1 : Int32) <<< ((nI (17 + i) - 17) &&& 31)) = 0) ↔ m.testBit i = false) ∧ (nI m ||| ((1 : Int32) <<< ((nI (17 + i) - 17) &&& 31))) = nI (m ||| 2 ^ i) ∧ m ||| 2 ^ i < 32 := by decide +kernel
theorem zonm : ∀ m, m < 16 → ∀ i, i < 3 → ((((nI m) >>> (nI (i + 1) &&& 31)) &&& 1 = 1) ↔ m.testBit (i + 1) = true) ∧ (nI m ||| ((1 : Int32) <<< (nI (i + 1) &&& 31))) = nI (m ||| 2 ^ (i + 1)) ∧ m ||| 2 ^ (i + 1) < 16 := by decide +kernel
theorem tbor (m i j : Nat) : (m ||| 2 ^ i).testBit j = if j = i then true else m.testBit j := by
  rw [Nat.testBit_or, Nat.testBit_two_pow]
  by_cases c : j = i
  · rw [if_pos c, c]; simp
  · rw [if_neg c]
    have : ¬ i = j := fun z => c z.symm
    simp [this]
/-- a word that may stand once: in the class -/
theorem c_onceY (I : TI T) (K : CT T q h) (C : DCd D q h) (hi : i < 5) (ht : tc T q = 17 + i) (ho : onc D i = true) : CF 13 q 3 h (g_X6_takeOnce h 13) := by
  obtain ⟨m, m1, m2, m3⟩ := C.2.2.2.1
  obtain ⟨z1, z2, z3⟩ := zonc m m1 i hi
  unfold g_X6_takeOnce
  rw [rd13.1, K.2.2.2.2.1, ht, zlet_e, m2, if_neg (fun z => by rw [z1, m3 i hi, ho] at z; cases z)]
  exact c_failb rd13 K 3
theorem c_onceN (I : TI T) (K : CT T q h) (C : DCd D q h) (hi : i < 5) (ht : tc T q = 17 + i) (ho : onc D i = false) : ∃ h' m, g_X6_takeOnce h 13 = some (true, h') ∧ CT T (tx T q) h' ∧ m < 32 ∧ h'.1 13 5 = nI m ∧ (∀ j, j < 5 → m.testBit j = if j = i then true else onc D j) ∧ zsm (fun a k => AT1 a k ∨ (a = 13 ∧ k = 5)) h h' := by
  obtain ⟨m, m1, m2, m3⟩ := C.2.2.2.1
  obtain ⟨z1, z2, z3⟩ := zonc m m1 i hi
  obtain ⟨h3, e3, K3, w3⟩ := e_look I (K.vl (t := 13) (by decide) 5 (nI (m ||| 2 ^ i)))
  refine ⟨h3, m ||| 2 ^ i, ?_, K3, z3, by rw [(w3 _ _ (by unfold AT1; omega)).1, zpi_r, if_pos ⟨rfl, rfl⟩], fun j hj => by rw [tbor, m3 j hj], (zsm.pi (Or.inr ⟨rfl, rfl⟩)).tr (w3.mono (fun a k z => Or.inl z))⟩
  unfold g_X6_takeOnce
  rw [rd13.1, K.2.2.2.2.1, ht, zlet_e, m2, if_pos (by rw [z1, m3 i hi]; exact ho), z2, zlet_e, e3, zbind_s]
/-- in the reference -/
theorem m_twiceY (M : DMd D q h) (hi : i < 3) (ho : don D i = true) : g_X12_isTwice h 139 (nI (i + 1)) = some (true, h) := by
  obtain ⟨m, m1, m2, m3⟩ := M.2.2.2.1
  obtain ⟨z1, z2, z3⟩ := zonm m m1 i hi
  unfold g_X12_isTwice
  rw [m2, if_pos (by rw [z1, m3 i hi]; exact ho)]
theorem m_twiceN (M : DMd D q h) (hi : i < 3) (ho : don D i = false) : ∃ h' m, g_X12_isTwice h 139 (nI (i + 1)) = some (false, h') ∧ m < 16 ∧ h'.1 139 22 = nI m ∧ (∀ j, j < 3 → m.testBit (j + 1) = if j = i then true else don D j) ∧ zsm (fun a k => a = 139 ∧ k = 22) h h' := by
  obtain ⟨m, m1, m2, m3⟩ := M.2.2.2.1
  obtain ⟨z1, z2, z3⟩ := zonm m m1 i hi
  refine ⟨zpi h 139 22 (nI (m ||| 2 ^ (i + 1))), m ||| 2 ^ (i + 1), ?_, z3, by rw [zpi_r, if_pos ⟨rfl, rfl⟩], fun j hj => ?_, zsm.pi ⟨rfl, rfl⟩⟩
  · unfold g_X12_isTwice
    rw [m2, if_neg (fun z => by rw [z1, m3 i hi, ho] at z; cases z), z2, zlet_e]
  · rw [tbor, m3 j hj]
    have : (j + 1 = i + 1) = (j = i) := propext (by omega)
    simp only [this]
end N3
