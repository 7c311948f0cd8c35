/-! the relation of the two halves of the heap -/
abbrev zY : Type := Nat × (Nat → Nat) × (Nat → Nat) × (Nat → Nat)
abbrev zHd : Type := Nat × (Nat → Nat) × (Nat → Bool)
abbrev zTp : Type := Nat × (Nat → Nat)
/-- told grudges, years, heard, marks, tape, names -/
abbrev zZ : Type := (Nat → Nat) × zY × zHd × (Nat → Bool × zSt × zY × zHd) × zTp × (Nat → List Nat)
abbrev zg (Z : zZ) : Nat → Nat := Z.1
abbrev zy (Z : zZ) : zY := Z.2.1
abbrev zhd (Z : zZ) : zHd := Z.2.2.1
abbrev zmk (Z : zZ) : Nat → Bool × zSt × zY × zHd := Z.2.2.2.1
abbrev ztp (Z : zZ) : zTp := Z.2.2.2.2.1
abbrev znm (Z : zZ) : Nat → List Nat := Z.2.2.2.2.2
def YI (n : Nat) (Y : zY) : Prop := Y.1 ≤ 40 ∧ ∀ k, k < Y.1 → lok n (Y.2.1 k) (Y.2.2.1 k) (Y.2.2.2 k) ∧ Y.2.2.1 k < 7 ∧ Y.2.2.2 k < 7
def HI (D : zHd) : Prop := D.1 ≤ 8 ∧ ∀ k, k < D.1 → D.2.1 k ≤ 9
/-- a bar that all heard bears out -/
def iba (D : zHd) (b : Nat) : Bool := (List.range D.1).all fun k => decide (b ≤ D.2.1 k) == D.2.2 k
/-- years in the class: object t, its row t + 1 -/
def YC (Y : zY) (h : zH) (t : Nat) : Prop := h.1 t 1 = nI Y.1 ∧ ∀ k, k < Y.1 → h.1 (t + 1) k = nI (Y.2.2.2 k + 8 * Y.2.2.1 k + 64 * (22 + Y.2.1 k))
/-- in the reference: the m-th of six -/
def YM (Y : zY) (h : zH) (m : Nat) : Prop := h.1 164 m = nI Y.1 ∧ ∀ k, k < Y.1 → h.1 165 (40 * m + k) = nI (Y.2.1 k) ∧ (Y.2.1 k = 1 ∨ Y.2.1 k = 2 ∨ Y.2.1 k = 3 → h.1 166 (40 * m + k) = nI (Y.2.2.1 k)) ∧ (Y.2.1 k = 1 ∨ Y.2.1 k = 2 → h.1 167 (40 * m + k) = nI (Y.2.2.2 k))
def HC (D : zHd) (h : zH) (t : Nat) : Prop := h.1 t 2 = nI D.1 ∧ ∃ m, m < 1024 ∧ h.1 t 3 = nI m ∧ ∀ b, b < 10 → m.testBit b = (decide (1 ≤ b) && iba D b)
def HM (D : zHd) (h : zH) (m : Nat) : Prop := h.1 168 m = nI D.1 ∧ ∀ k, k < D.1 → h.1 169 (8 * m + k) = nI (D.2.1 k) ∧ h.1 170 (8 * m + k) = zb (D.2.2 k)
/-- words as numbers: by 32 and by 27 -/
def w32 (l : List Nat) : Int64 := l.foldl (fun a c => a * 32 + lN c) 0
def w27 (l : List Nat) : Int64 := l.foldl (fun a c => a * 27 + lN c) 0
def WI (l : List Nat) : Prop := 1 ≤ l.length ∧ l.length ≤ 8 ∧ ∀ c ∈ l, 1 ≤ c ∧ c ≤ 26
def ZI (R : zRp) (Z : zZ) : Prop := (∀ k, k < 49 → zg Z k ≤ 9) ∧ YI (rn R) (zy Z) ∧ HI (zhd Z) ∧ (∀ m, m < 4 → (zmk Z m).1 = true → SI (rn R) (zmk Z m).2.1 ∧ YI (rn R) (zmk Z m).2.2.1 ∧ HI (zmk Z m).2.2.2) ∧ (ztp Z).1 ≤ 1000 ∧ (∀ k, k < (ztp Z).1 → (ztp Z).2 k = 10 ∨ (32 ≤ (ztp Z).2 k ∧ (ztp Z).2 k ≤ 126)) ∧ ∀ p, p < rn R → WI (znm Z p)
/-- the class, but for now's standing and the past -/
def CZ (R : zRp) (Z : zZ) (h : zH) : Prop := RC R h ∧ LC R h ∧ (∀ k, k < 49 → (if 0 < h.1 9 k then h.1 9 k else 0) = nI (zg Z k)) ∧ (∀ p, p < rn R → h.2 4 p = w32 (znm Z p)) ∧ SC (rn R) (ifr (rn R) (zg Z)) h 29 ∧ YC (zy Z) h 38 ∧ HC (zhd Z) h 37 ∧ (∀ m, m < 4 → h.1 (45 + 7 * m) 4 = zb (zmk Z m).1 ∧ ((zmk Z m).1 = true → SC (rn R) (zmk Z m).2.1 h (48 + 7 * m) ∧ YC (zmk Z m).2.2.1 h (46 + 7 * m) ∧ HC (zmk Z m).2.2.2 h (45 + 7 * m))) ∧ h.1 1 1 = nI (ztp Z).1 ∧ ∀ k, k < (ztp Z).1 → h.1 2 k = nI ((ztp Z).2 k)
/-- the reference, but for its row s and the past -/
def MZ (R : zRp) (Z : zZ) (h : zH) : Prop := RM R h ∧ LM R h ∧ (∀ k, k < 49 → h.1 147 k = nI (zg Z k)) ∧ (∀ p, p < rn R → h.2 142 p = w27 (znm Z p)) ∧ YM (zy Z) h 0 ∧ HM (zhd Z) h 0 ∧ (∀ m, m < 4 → h.1 175 m = zb (zmk Z m).1 ∧ ((zmk Z m).1 = true → SM (rn R) (zmk Z m).2.1 h 173 (107 * m) ∧ YM (zmk Z m).2.2.1 h (1 + m) ∧ HM (zmk Z m).2.2.2 h (1 + m))) ∧ h.1 139 1 = nI (ztp Z).1 ∧ ∀ k, k < (ztp Z).1 → h.1 140 k = nI ((ztp Z).2 k)
def RelC (R : zRp) (S : zSt) (pc : Nat) (pS : Nat → zSt) (Z : zZ) (h : zH) : Prop := CZ R Z h ∧ SC (rn R) S h 40 ∧ PC (rn R) pc pS h
def RelM (R : zRp) (S : zSt) (pc : Nat) (pS : Nat → zSt) (Z : zZ) (h : zH) : Prop := MZ R Z h ∧ SM (rn R) S h 171 0 ∧ PM (rn R) pc pS h ∧ M0 h
def RelI (R : zRp) (S : zSt) (pc : Nat) (pS : Nat → zSt) (Z : zZ) : Prop := RI R ∧ SI (rn R) S ∧ (∀ i, i < pc → SI (rn R) (pS i)) ∧ ZI R Z
/-- what class doings of now's standing may write; the reference's -/
def Acl : Nat → Nat → Prop := fun a k => (33 ≤ a ∧ a ≤ 36) ∨ (40 ≤ a ∧ a ≤ 43) ∨ (73 ≤ a ∧ a ≤ 138) ∨ a = 12 ∨ (a = 10 ∧ 2 ≤ k ∧ k ≤ 6) ∨ a = 0 ∨ 139 ≤ a
def Amo : Nat → Nat → Prop := fun a k => a < 139 ∨ (a = 139 ∧ (k = 0 ∨ k = 49 ∨ k = 51)) ∨ (154 ≤ a ∧ a ≤ 163) ∨ a = 171 ∨ a = 172 ∨ a = 174 ∨ 176 ≤ a
section Z1
variable {R : zRp} {S S' : zSt} {pc : Nat} {pS : Nat → zSt} {Z : zZ} {h h' : zH} {A : Nat → Nat → Prop}
theorem YC.same {Y : zY} {t : Nat} (H : YC Y h t) (x : zsm A h h') (hA : ∀ a k, t ≤ a → a ≤ t + 1 → ¬ A a k) : YC Y h' t := ⟨by rw [(x _ _ (hA _ _ (by omega) (by omega))).1]; exact H.1, fun k hk => by rw [(x _ _ (hA _ _ (by omega) (by omega))).1]; exact H.2 k hk⟩
theorem YM.same {Y : zY} {m : Nat} (H : YM Y h m) (x : zsm A h h') (hA : ∀ a k, 164 ≤ a → a ≤ 167 → ¬ A a k) : YM Y h' m := ⟨by rw [(x _ _ (hA _ _ (by omega) (by omega))).1]; exact H.1, fun k hk => ⟨by rw [(x _ _ (hA _ _ (by omega) (by omega))).1]; exact (H.2 k hk).1, fun z => by rw [(x _ _ (hA _ _ (by omega) (by omega))).1]; exact (H.2 k hk).2.1 z, fun z => by rw [(x _ _ (hA _ _ (by omega) (by omega))).1]; exact (H.2 k hk).2.2 z⟩⟩
theorem HC.same {D : zHd} {t : Nat} (H : HC D h t) (x : zsm A h h') (hA : ∀ k, ¬ A t k) : HC D h' t := by
  obtain ⟨h1, m, h2, h3, h4⟩ := H
  exact ⟨by rw [(x _ _ (hA _)).1]; exact h1, m, h2, by rw [(x _ _ (hA _)).1]; exact h3, h4⟩
theorem HM.same {D : zHd} {m : Nat} (H : HM D h m) (x : zsm A h h') (hA : ∀ a k, 168 ≤ a → a ≤ 170 → ¬ A a k) : HM D h' m := ⟨by rw [(x _ _ (hA _ _ (by omega) (by omega))).1]; exact H.1, fun k hk => ⟨by rw [(x _ _ (hA _ _ (by omega) (by omega))).1]; exact (H.2 k hk).1, by rw [(x _ _ (hA _ _ (by omega) (by omega))).1]; exact (H.2 k hk).2⟩⟩
theorem RC.same3 (H : RC R h) (x : zsm A h h') (hA : ∀ a b, 3 ≤ a → a ≤ 9 → ¬ A a b) : RC R h' := by
  obtain ⟨h1, h2, h3, h4, h5, h6, h7, h8⟩ := H
  exact ⟨by rw [(x 3 7 (hA _ _ (by omega) (by omega))).1]; exact h1, by rw [(x 3 8 (hA _ _ (by omega) (by omega))).1]; exact h2, by rw [(x 3 9 (hA _ _ (by omega) (by omega))).1]; exact h3, by rw [(x 3 10 (hA _ _ (by omega) (by omega))).1]; exact h4,
    fun p hp => by rw [(x 5 p (hA _ _ (by omega) (by omega))).1]; exact h5 p hp, fun p hp => by rw [(x 6 p (hA _ _ (by omega) (by omega))).1]; exact h6 p hp, fun p hp => by rw [(x 7 p (hA _ _ (by omega) (by omega))).1]; exact h7 p hp, fun p hp => by rw [(x 8 p (hA _ _ (by omega) (by omega))).1]; exact h8 p hp⟩
theorem CZ.same (H : CZ R Z h) (x : zsm A h h') (hA : ∀ a k, A a k → Acl a k) : CZ R Z h' := by
  have x := x.mono hA
  obtain ⟨h1, h2, h3, h4, h5, h6, h7, h8, h9, h10⟩ := H
  refine ⟨RC.same3 (A := Acl) h1 x (fun a b ha hb => by unfold Acl; omega), LC.same (A := Acl) h2 x (fun k => by unfold Acl; omega) (fun k hk => by unfold Acl; omega), fun k hk => ?_, fun p hp => ?_, SC.same (A := Acl) h5 x (fun a b ha hb => by unfold Acl; omega), YC.same (A := Acl) h6 x (fun a k ha hb => by unfold Acl; omega), HC.same (A := Acl) h7 x (fun k => by unfold Acl; omega), fun m hm => ?_, ?_, fun k hk => ?_⟩
  · rw [(x 9 k (by unfold Acl; omega)).1]; exact h3 k hk
  · rw [(x 4 p (by unfold Acl; omega)).2]; exact h4 p hp
  · obtain ⟨a1, a2⟩ := h8 m hm
    exact ⟨by rw [(x _ _ (by unfold Acl; omega)).1]; exact a1, fun z => ⟨(a2 z).1.same x (fun a b ha hb => by unfold Acl; omega), (a2 z).2.1.same x (fun a k ha hb => by unfold Acl; omega), (a2 z).2.2.same x (fun k => by unfold Acl; omega)⟩⟩
  · rw [(x 1 1 (by unfold Acl; omega)).1]; exact h9
  · rw [(x 2 k (by unfold Acl; omega)).1]; exact h10 k hk
theorem MZ.same (H : MZ R Z h) (x : zsm A h h') (hA : ∀ a k, A a k → Amo a k) : MZ R Z h' := by
  have x := x.mono hA
  obtain ⟨h1, h2, h3, h4, h6, h7, h8, h9, h10⟩ := H
  refine ⟨RM.same (A := Amo) h1 x (fun a b ha hb => by unfold Amo; omega), LM.same (A := Amo) h2 x (fun a k ha hb => by unfold Amo; omega), fun k hk => ?_, fun p hp => ?_, YM.same (A := Amo) h6 x (fun a k ha hb => by unfold Amo; omega), HM.same (A := Amo) h7 x (fun a k ha hb => by unfold Amo; omega), fun m hm => ?_, ?_, fun k hk => ?_⟩
  · rw [(x 147 k (by unfold Amo; omega)).1]; exact h3 k hk
  · rw [(x 142 p (by unfold Amo; omega)).2]; exact h4 p hp
  · obtain ⟨a1, a2⟩ := h8 m hm
    exact ⟨by rw [(x _ _ (by unfold Amo; omega)).1]; exact a1, fun z => ⟨(a2 z).1.same x (fun k => by unfold Amo; omega), (a2 z).2.1.same x (fun a k ha hb => by unfold Amo; omega), (a2 z).2.2.same x (fun a k ha hb => by unfold Amo; omega)⟩⟩
  · rw [(x 139 1 (by unfold Amo; omega)).1]; exact h9
  · rw [(x 140 k (by unfold Amo; omega)).1]; exact h10 k hk
theorem z40 : zT 40 = (6, 0) := by decide
theorem z33 : zT 33 = (6, 0) := by decide
theorem z29 : zT 29 = (6, 0) := by decide
theorem RelC.cl (I : RelI R S pc pS Z) (H : RelC R S pc pS Z h) : CL R S h 40 := ⟨⟨I.1, I.2.1, z40, H.1.1, H.2.1⟩, H.1.2.1⟩
theorem RelM.ml (I : RelI R S pc pS Z) (H : RelM R S pc pS Z h) : ML R S h := ⟨⟨I.1, I.2.1, H.1.1, H.2.1⟩, H.1.2.1, H.2.2.2⟩
/-- the class half isn't touched by what the reference writes, nor the other way -/
theorem RelC.other (H : RelC R S pc pS Z h) (x : zsm A h h') (hA : ∀ a k, A a k → 139 ≤ a) : RelC R S pc pS Z h' :=
  ⟨H.1.same x (fun a k z => by have := hA a k z; unfold Acl; omega), H.2.1.same x (fun a b ha hb z => by have := hA a b z; omega), H.2.2.same x (fun a k ha hb z => by have := hA a k z; omega)⟩
theorem RelM.other (H : RelM R S pc pS Z h) (x : zsm A h h') (hA : ∀ a k, A a k → a < 139) : RelM R S pc pS Z h' :=
  ⟨H.1.same x (fun a k z => by have := hA a k z; unfold Amo; omega), H.2.1.same x (fun b z => by have := hA 171 b z; omega), H.2.2.1.same x (fun z => by have := hA _ _ z; omega) (fun k z => by have := hA _ _ z; omega), H.2.2.2.same x (fun k z => by have := hA _ _ z; omega)⟩
/-- 'thrown' is set to 0: nothing else -/
theorem RelM.th (H : RelM R S pc pS Z h) (v : Int32) : RelM R S pc pS Z (zpi h 139 0 v) := by
  have x : zsm (fun a k => a = 139 ∧ k = 0) h (zpi h 139 0 v) := zsm.pi ⟨rfl, rfl⟩
  exact ⟨H.1.same x (fun a k z => by unfold Amo; omega), H.2.1.same x (fun b z => by omega), H.2.2.1.same x (fun z => by omega) (fun k z => by omega), H.2.2.2.same x (fun k z => by omega)⟩
end Z1
/-- all of it -/
def Rel (h : zH) : Prop := ∃ R S pc pS Z, RelI R S pc pS Z ∧ RelC R S pc pS Z h ∧ RelM R S pc pS Z h
/-- both answer alike, and the relation stands: a class method that only answers; one that changes the heap -/
def OKq (h : zH) (a : Option Int32) (b : zH → Option (Int32 × zH)) : Prop := ∃ v h2, a = some v ∧ b h = some (v, h2) ∧ Rel h2
def OKw (h : zH) (a : Option (Int32 × zH)) (b : zH → Option (Int32 × zH)) : Prop := ∃ v h1 h2, a = some (v, h1) ∧ b h1 = some (v, h2) ∧ Rel h2
def OKb (h : zH) (a : Option (Bool × zH)) (b : zH → Option (Bool × zH)) : Prop := ∃ v h1 h2, a = some (v, h1) ∧ b h1 = some (v, h2) ∧ Rel h2
section O1
variable {h : zH}
theorem ok_governs (H : Rel h) : OKq h (g_X11_governs h 0) (fun h => g_X12_governs h 139) := by
  obtain ⟨R, S, pc, pS, Z, I, C, M⟩ := H
  refine ⟨zo (ig R S), zpi h 139 0 0, ?_, ?_, R, S, pc, pS, Z, I, C.other (zsm.pi (A := fun a _ => a = 139) rfl) (fun a k z => by omega), M.th 0⟩
  · unfold g_X11_governs
    simp only [zr_0_0, zr_0_1, zr_0_2, zr_0_3, zr_0_4, zr_0_5, zr_0_6, zr_0_7, zr_0_8, zr_1_0, zr_3_0, zr_3_1, zr_3_2, zr_3_3, zr_3_4, zr_3_5, zr_3_6, zr_10_0, zr_10_1, zr_13_0, zr_13_1, zr_13_4, zr_14_0, zr_14_1, zr_14_2, zr_14_3, zr_14_4, zr_14_5, zr_14_6, zr_21_0, zr_21_1, zr_24_0, zr_24_1, zr_24_2, zr_26_0, zr_26_1, zr_26_4, zr_27_0, zr_37_0, zr_37_1, zr_38_0, zr_44_0, zr_44_1, zr_44_2, zr_44_3, zr_45_0, zr_45_1, zr_52_0, zr_52_1, zr_59_0, zr_59_1, zr_66_0, zr_66_1, zr_73_0, zr_74_0, zr_74_1, zr_74_2, zr_74_3, zr_74_4, zr_74_5, zr_74_6, zr_74_7, zr_74_8, zr_74_9, zr_74_10, zr_74_11, zr_74_12, zr_74_13, zr_74_14, zr_74_15, zr_139_2, zr_139_10, zr_139_11, zr_139_12, zr_139_13, zr_139_14, zr_139_15, zr_139_16, zr_139_17, zr_139_18, zr_139_19, zr_139_20, zr_139_23, zr_139_24, zr_139_25, zr_139_26, zr_139_27, zr_139_28, zr_139_29, zr_139_30, zr_139_31, zr_139_32, zr_139_33, zr_139_34, zr_139_37, zr_139_38, zr_139_39, zr_139_40, zr_139_41, zr_139_42, zr_139_43, zr_139_44, zr_139_45, zr_139_46, zr_139_47, zr_139_48, zr_139_50]
    rw [e_X7_governor (C.cl I).1]; rfl
  · show g_X12_governs h 139 = _
    unfold g_X12_governs
    rw [zlet_e, e_X12_gov ((M.th 0).ml I).1 (M.th 0).2.2.2]; rfl
end O1
