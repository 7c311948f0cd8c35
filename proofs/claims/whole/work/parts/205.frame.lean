/-! what stays, what changes -/
theorem zpi_r (h : zH) (t k : Nat) (x : Int32) (a b : Nat) : (zpi h t k x).1 a b = if a = t ∧ b = k then x else h.1 a b := rfl
theorem zpi_2 (h : zH) (t k : Nat) (x : Int32) : (zpi h t k x).2 = h.2 := rfl
theorem zpl_r (h : zH) (t k : Nat) (x : Int64) (a b : Nat) : (zpl h t k x).2 a b = if a = t ∧ b = k then x else h.2 a b := rfl
theorem zpl_1 (h : zH) (t k : Nat) (x : Int64) : (zpl h t k x).1 = h.1 := rfl
def zsm (A : Nat → Nat → Prop) (h h' : zH) : Prop := ∀ a b, ¬ A a b → h'.1 a b = h.1 a b ∧ h'.2 a b = h.2 a b
theorem zsm.rf {A : Nat → Nat → Prop} {h : zH} : zsm A h h := fun _ _ _ => ⟨rfl, rfl⟩
theorem zsm.tr {A : Nat → Nat → Prop} {h1 h2 h3 : zH} (x : zsm A h1 h2) (y : zsm A h2 h3) : zsm A h1 h3 := fun a b c => ⟨((y a b c).1).trans (x a b c).1, ((y a b c).2).trans (x a b c).2⟩
theorem zsm.mono {A B : Nat → Nat → Prop} {h h' : zH} (x : zsm A h h') (hAB : ∀ a b, A a b → B a b) : zsm B h h' := fun a b c => x a b (fun z => c (hAB a b z))
theorem zsm.pi {A : Nat → Nat → Prop} {h : zH} {t k : Nat} {x : Int32} (hA : A t k) : zsm A h (zpi h t k x) := fun a b c => ⟨if_neg (fun z => c (by rw [z.1, z.2]; exact hA)), rfl⟩
theorem zsm.pl {A : Nat → Nat → Prop} {h : zH} {t k : Nat} {x : Int64} (hA : A t k) : zsm A h (zpl h t k x) := fun a b c => ⟨rfl, if_neg (fun z => c (by rw [z.1, z.2]; exact hA))⟩
def zu (f : Nat → Nat) (k v : Nat) : Nat → Nat := fun j => if j = k then v else f j
theorem zu_s (f : Nat → Nat) (k v : Nat) : zu f k v k = v := if_pos rfl
theorem zu_n {f : Nat → Nat} {k v j : Nat} (h : j ≠ k) : zu f k v j = f j := if_neg h
theorem zsum_zu_out {f : Nat → Nat} {k v : Nat} : ∀ {n : Nat}, n ≤ k → zsum (zu f k v) n = zsum f n := by
  intro n h
  exact zsum_cong (fun i hi => zu_n (by omega))
theorem zsum_zu {f : Nat → Nat} {k v : Nat} : ∀ {n : Nat}, k < n → zsum (zu f k v) n + f k = zsum f n + v := by
  intro n
  induction n with
  | zero => intro h; omega
  | succ n ih =>
    intro h
    simp only [zsum]
    by_cases c : k = n
    · subst c
      rw [zsum_zu_out (Nat.le_refl _), zu_s]; omega
    · rw [zu_n (Ne.symm c)]
      have := ih (by omega)
      omega
theorem zloopH {σ R : Type} {L : Nat → Int32 → σ → zH → Option R} {N : Nat} {f : Nat → σ → σ} (P : Nat → σ → zH → Prop)
    (hs : ∀ n i s h, i < N → P i s h → ∃ h', L (n + 1) (nI i) s h = L n (nI (i + 1)) (f i s) h' ∧ P (i + 1) (f i s) h') :
    ∀ k i s n h, i + k = N → k < n → P i s h → ∃ h' m, L n (nI i) s h = L (m + 1) (nI N) (zfold f i k s) h' ∧ P N (zfold f i k s) h' := by
  intro k
  induction k with
  | zero =>
    intro i s n h hi hn hP
    obtain ⟨n, rfl⟩ : ∃ m, n = m + 1 := ⟨n - 1, by omega⟩
    have : i = N := by omega
    subst this
    exact ⟨h, n, rfl, hP⟩
  | succ k ih =>
    intro i s n h hi hn hP
    obtain ⟨n, rfl⟩ : ∃ m, n = m + 1 := ⟨n - 1, by omega⟩
    obtain ⟨h1, e1, P1⟩ := hs n i s h (by omega) hP
    obtain ⟨h2, m, e2, P2⟩ := ih (i + 1) (f i s) n h1 (by omega) (by omega) P1
    exact ⟨h2, m, e1.trans e2, P2⟩
/-- what a Standing's doings may write: its own, and the laws' scratch -/
def AT (t : Nat) : Nat → Nat → Prop := fun a b => (t ≤ a ∧ a ≤ t + 3) ∨ a = 12 ∨ (a = 10 ∧ 2 ≤ b ∧ b ≤ 6)
/-- the reference's -/
def AM : Nat → Nat → Prop := fun a _ => a = 171 ∨ (154 ≤ a ∧ a ≤ 163)
section F1
variable {R : zRp} {S : zSt} {h h' : zH} {t : Nat} {A : Nat → Nat → Prop}
theorem RC.same (H : RC R h) (x : zsm A h h') (hA : ∀ a b, a ≤ 9 → ¬ A a b) : RC R h' := by
  obtain ⟨h1, h2, h3, h4, h5, h6, h7, h8⟩ := H
  exact ⟨by rw [(x 3 7 (hA _ _ (by omega))).1]; exact h1, by rw [(x 3 8 (hA _ _ (by omega))).1]; exact h2, by rw [(x 3 9 (hA _ _ (by omega))).1]; exact h3, by rw [(x 3 10 (hA _ _ (by omega))).1]; exact h4,
    fun p hp => by rw [(x 5 p (hA _ _ (by omega))).1]; exact h5 p hp, fun p hp => by rw [(x 6 p (hA _ _ (by omega))).1]; exact h6 p hp, fun p hp => by rw [(x 7 p (hA _ _ (by omega))).1]; exact h7 p hp, fun p hp => by rw [(x 8 p (hA _ _ (by omega))).1]; exact h8 p hp⟩
theorem RM.same (H : RM R h) (x : zsm A h h') (hA : ∀ a b, 141 ≤ a → a ≤ 146 → ¬ A a b) : RM R h' := by
  obtain ⟨h1, h2, h3, h4, h5, h6, h7, h8⟩ := H
  exact ⟨by rw [(x 141 0 (hA _ _ (by omega) (by omega))).1]; exact h1, by rw [(x 141 1 (hA _ _ (by omega) (by omega))).1]; exact h2, by rw [(x 141 2 (hA _ _ (by omega) (by omega))).1]; exact h3, by rw [(x 141 3 (hA _ _ (by omega) (by omega))).1]; exact h4,
    fun p hp => by rw [(x 143 p (hA _ _ (by omega) (by omega))).1]; exact h5 p hp, fun p hp => by rw [(x 144 p (hA _ _ (by omega) (by omega))).1]; exact h6 p hp, fun p hp => by rw [(x 145 p (hA _ _ (by omega) (by omega))).1]; exact h7 p hp, fun p hp => by rw [(x 146 p (hA _ _ (by omega) (by omega))).1]; exact h8 p hp⟩
theorem SC.same {n : Nat} (H : SC n S h t) (x : zsm A h h') (hA : ∀ a b, t ≤ a → a ≤ t + 3 → ¬ A a b) : SC n S h' t := by
  obtain ⟨h1, h2, h3, h4, h5⟩ := H
  exact ⟨fun k hk => by rw [(x _ k (hA _ _ (by omega) (by omega))).1]; exact h1 k hk, fun k hk => by rw [(x _ k (hA _ _ (by omega) (by omega))).1]; exact h2 k hk, fun k hk => by rw [(x _ k (hA _ _ (by omega) (by omega))).1]; exact h3 k hk, by rw [(x _ _ (hA _ _ (by omega) (by omega))).1]; exact h4, by rw [(x _ _ (hA _ _ (by omega) (by omega))).1]; exact h5⟩
theorem SM.same {n a o : Nat} (H : SM n S h a o) (x : zsm A h h') (hA : ∀ b, ¬ A a b) : SM n S h' a o := by
  obtain ⟨h1, h2, h3, h4, h5⟩ := H
  exact ⟨fun k hk => by rw [(x _ _ (hA _)).1]; exact h1 k hk, fun k hk => by rw [(x _ _ (hA _)).1]; exact h2 k hk, fun k hk => by rw [(x _ _ (hA _)).1]; exact h3 k hk, by rw [(x _ _ (hA _)).1]; exact h4, by rw [(x _ _ (hA _)).1]; exact h5⟩
end F1
/-- a vote is cast -/
def iv (S : zSt) (p q : Nat) : zSt := (sg S, zu (sc S) (p * 7 + q) (sc S (p * 7 + q) + 1), zu (sv S) p (sv S p - 1), sa S, sd S)
theorem nI_s1 {a : Nat} (h : 0 < a) : nI a - 1 = nI (a - 1) := by
  obtain ⟨b, rfl⟩ : ∃ b, a = b + 1 := ⟨a - 1, by omega⟩
  exact nI_pred b
section M1
variable {R : zRp} {S : zSt} {h : zH} {t : Nat}
theorem SI.iv {n p q : Nat} (hn : n ≤ 7) (H : SI n S) (hp : p < n) (hq : q < n) (hv : 0 < sv S p) : SI n (iv S p q) := by
  obtain ⟨h1, h2, h3, h4⟩ := H
  refine ⟨h1, h2, fun a b ha hb hab => ?_, ?_⟩
  · show zu (sc S) (p * 7 + q) _ (a * 7 + b) = 0
    rw [zu_n (by omega)]
    exact h3 a b ha hb hab
  · show zsum (zu (sv S) p (sv S p - 1)) n + zsum (zu (sc S) (p * 7 + q) (sc S (p * 7 + q) + 1)) 49 ≤ n
    have a1 := zsum_zu (f := sv S) (k := p) (v := sv S p - 1) hp
    have a2 := zsum_zu (f := sc S) (k := p * 7 + q) (v := sc S (p * 7 + q) + 1) (n := 49) (by omega)
    omega
theorem e_X7_vote (H : CS R S h t) {p q : Nat} (hp : p < rn R) (hq : q < rn R) (hv : 0 < sv S p) : ∃ h', g_X7_vote h t (nI p) (nI q) = some h' ∧ CS R (iv S p q) h' t ∧ zsm (AT t) h h' := by
  have hn := H.n7
  have ht := zst H.2.2.1
  have hw : zsm (AT t) h (zpi (zpi h (t + 3) p (nI (sv S p - 1))) (t + 2) (p * 7 + q) (nI (sc S (p * 7 + q) + 1))) := (zsm.pi (by unfold AT; omega)).tr (zsm.pi (by unfold AT; omega))
  refine ⟨_, ?_, ⟨H.1, H.2.1.iv hn hp hq hv, H.2.2.1, H.2.2.2.1.same hw (fun a b ha => by unfold AT; omega), ?_⟩, hw⟩
  · unfold g_X7_vote
    simp (disch := omega) only [H.e2, H.e3, H.v, H.c, zpi_r, nI_s1 hv, zin_t, zx_nI, nI_add, nI_mul, znI_le, znI_lt, znI_eq, znI_neg, zgu_t, zgu_f, zbind_s, zlet_e, zb_eq0, zb_eq1, zb_t, zb_f, zleL_0, zleR_0, zltL_0, zltR_0, zeq_0, zxl_0, zil_0, zmL_1, zmR_1, zaL_1, zaR_1, zleL_1, zleR_1, zltL_1, zltR_1, zeq_1, zxl_1, zil_1, zmL_2, zmR_2, zaL_2, zaR_2, zleL_2, zleR_2, zltL_2, zltR_2, zeq_2, zxl_2, zil_2, zmL_3, zmR_3, zaL_3, zaR_3, zleL_3, zleR_3, zltL_3, zltR_3, zeq_3, zxl_3, zil_3, zmL_4, zmR_4, zaL_4, zaR_4, zleL_4, zleR_4, zltL_4, zltR_4, zeq_4, zxl_4, zil_4, zmL_5, zmR_5, zaL_5, zaR_5, zleL_5, zleR_5, zltL_5, zltR_5, zeq_5, zxl_5, zil_5, zmL_6, zmR_6, zaL_6, zaR_6, zleL_6, zleR_6, zltL_6, zltR_6, zeq_6, zxl_6, zil_6, zmL_7, zmR_7, zaL_7, zaR_7, zleL_7, zleR_7, zltL_7, zltR_7, zeq_7, zxl_7, zil_7, zmL_8, zmR_8, zaL_8, zaR_8, zleL_8, zleR_8, zltL_8, zltR_8, zeq_8, zxl_8, zil_8, zmL_9, zmR_9, zaL_9, zaR_9, zleL_9, zleR_9, zltL_9, zltR_9, zeq_9, zxl_9, zil_9, zmL_10, zmR_10, zaL_10, zaR_10, zleL_10, zleR_10, zltL_10, zltR_10, zeq_10, zxl_10, zil_10, zmL_14, zmR_14, zaL_14, zaR_14, zleL_14, zleR_14, zltL_14, zltR_14, zeq_14, zxl_14, zil_14, zmL_15, zmR_15, zaL_15, zaR_15, zleL_15, zleR_15, zltL_15, zltR_15, zeq_15, zxl_15, zil_15, zmL_16, zmR_16, zaL_16, zaR_16, zleL_16, zleR_16, zltL_16, zltR_16, zeq_16, zxl_16, zil_16, zmL_20, zmR_20, zaL_20, zaR_20, zleL_20, zleR_20, zltL_20, zltR_20, zeq_20, zxl_20, zil_20, zmL_22, zmR_22, zaL_22, zaR_22, zleL_22, zleR_22, zltL_22, zltR_22, zeq_22, zxl_22, zil_22, zmL_23, zmR_23, zaL_23, zaR_23, zleL_23, zleR_23, zltL_23, zltR_23, zeq_23, zxl_23, zil_23, zmL_24, zmR_24, zaL_24, zaR_24, zleL_24, zleR_24, zltL_24, zltR_24, zeq_24, zxl_24, zil_24, zmL_25, zmR_25, zaL_25, zaR_25, zleL_25, zleR_25, zltL_25, zltR_25, zeq_25, zxl_25, zil_25, zmL_26, zmR_26, zaL_26, zaR_26, zleL_26, zleR_26, zltL_26, zltR_26, zeq_26, zxl_26, zil_26, zmL_32, zmR_32, zaL_32, zaR_32, zleL_32, zleR_32, zltL_32, zltR_32, zeq_32, zxl_32, zil_32, zmL_40, zmR_40, zaL_40, zaR_40, zleL_40, zleR_40, zltL_40, zltR_40, zeq_40, zxl_40, zil_40, zmL_49, zmR_49, zaL_49, zaR_49, zleL_49, zleR_49, zltL_49, zltR_49, zeq_49, zxl_49, zil_49, zmL_58, zmR_58, zaL_58, zaR_58, zleL_58, zleR_58, zltL_58, zltR_58, zeq_58, zxl_58, zil_58, zmL_99, zmR_99, zaL_99, zaR_99, zleL_99, zleR_99, zltL_99, zltR_99, zeq_99, zxl_99, zil_99, zmL_100, zmR_100, zaL_100, zaR_100, zleL_100, zleR_100, zltL_100, zltR_100, zeq_100, zxl_100, zil_100, zmL_107, zmR_107, zaL_107, zaR_107, zleL_107, zleR_107, zltL_107, zltR_107, zeq_107, zxl_107, zil_107, zmL_126, zmR_126, zaL_126, zaR_126, zleL_126, zleR_126, zltL_126, zltR_126, zeq_126, zxl_126, zil_126, zmL_1000, zmR_1000, zaL_1000, zaR_1000, zleL_1000, zleR_1000, zltL_1000, zltR_1000, zeq_1000, zxl_1000, zil_1000, zmL_1605, zmR_1605, zaL_1605, zaR_1605, zleL_1605, zleR_1605, zltL_1605, zltR_1605, zeq_1605, zxl_1605, zil_1605]
    rw [if_neg (by omega), nI_1]
  · refine ⟨fun k hk => ?_, fun k hk => ?_, fun k hk => ?_, ?_, ?_⟩
    · rw [zpi_r, zpi_r, if_neg (by omega), if_neg (by omega)]; exact H.g k hk
    · rw [zpi_r, zpi_r]
      show _ = nI (zu _ _ _ k)
      by_cases c : k = p * 7 + q
      · rw [if_pos ⟨rfl, c⟩, c, zu_s]
      · rw [if_neg (by omega), if_neg (by omega), zu_n c]; exact H.c k hk
    · rw [zpi_r, zpi_r, if_neg (by omega)]
      show _ = nI (zu _ _ _ k)
      by_cases c : k = p
      · rw [if_pos ⟨rfl, c⟩, c, zu_s]
      · rw [if_neg (by omega), zu_n c]; exact H.v k hk
    · rw [zpi_r, zpi_r, if_neg (by omega), if_neg (by omega)]; exact H.a
    · rw [zpi_r, zpi_r, if_neg (by omega), if_neg (by omega)]; exact H.d
theorem e_X12_casts (H : MS R S h) {p q : Nat} (hp : p < rn R) (hq : q < rn R) (hv : 0 < sv S p) : ∃ h', g_X12_casts h 139 (nI p) (nI q) = some h' ∧ MS R (iv S p q) h' ∧ zsm AM h h' := by
  have hn := H.n7
  have hw : zsm AM h (zpi (zpi h 171 (2 + p) (nI (sv S p - 1))) 171 (58 + 7 * p + q) (nI (sc S (p * 7 + q) + 1))) := (zsm.pi (by unfold AM; omega)).tr (zsm.pi (by unfold AM; omega))
  refine ⟨_, ?_, ⟨H.1, H.2.1.iv hn hp hq hv, H.2.2.1.same hw (fun a b ha hb => by unfold AM; omega), ?_⟩, hw⟩
  · unfold g_X12_casts
    simp (disch := omega) only [H.v, zpi_r, nI_s1 hv, zr_0_0, zr_0_1, zr_0_2, zr_0_3, zr_0_4, zr_0_5, zr_0_6, zr_0_7, zr_0_8, zr_1_0, zr_3_0, zr_3_1, zr_3_2, zr_3_3, zr_3_4, zr_3_5, zr_3_6, zr_10_0, zr_10_1, zr_13_0, zr_13_1, zr_13_4, zr_14_0, zr_14_1, zr_14_2, zr_14_3, zr_14_4, zr_14_5, zr_14_6, zr_21_0, zr_21_1, zr_24_0, zr_24_1, zr_24_2, zr_26_0, zr_26_1, zr_26_4, zr_27_0, zr_37_0, zr_37_1, zr_38_0, zr_44_0, zr_44_1, zr_44_2, zr_44_3, zr_45_0, zr_45_1, zr_52_0, zr_52_1, zr_59_0, zr_59_1, zr_66_0, zr_66_1, zr_73_0, zr_74_0, zr_74_1, zr_74_2, zr_74_3, zr_74_4, zr_74_5, zr_74_6, zr_74_7, zr_74_8, zr_74_9, zr_74_10, zr_74_11, zr_74_12, zr_74_13, zr_74_14, zr_74_15, zr_139_2, zr_139_10, zr_139_11, zr_139_12, zr_139_13, zr_139_14, zr_139_15, zr_139_16, zr_139_17, zr_139_18, zr_139_19, zr_139_20, zr_139_23, zr_139_24, zr_139_25, zr_139_26, zr_139_27, zr_139_28, zr_139_29, zr_139_30, zr_139_31, zr_139_32, zr_139_33, zr_139_34, zr_139_37, zr_139_38, zr_139_39, zr_139_40, zr_139_41, zr_139_42, zr_139_43, zr_139_44, zr_139_45, zr_139_46, zr_139_47, zr_139_48, zr_139_50, zin_t, zx_nI, nI_add, nI_mul, znI_le, znI_lt, znI_eq, znI_neg, zgu_t, zgu_f, zbind_s, zlet_e, zb_eq0, zb_eq1, zb_t, zb_f, zleL_0, zleR_0, zltL_0, zltR_0, zeq_0, zxl_0, zil_0, zmL_1, zmR_1, zaL_1, zaR_1, zleL_1, zleR_1, zltL_1, zltR_1, zeq_1, zxl_1, zil_1, zmL_2, zmR_2, zaL_2, zaR_2, zleL_2, zleR_2, zltL_2, zltR_2, zeq_2, zxl_2, zil_2, zmL_3, zmR_3, zaL_3, zaR_3, zleL_3, zleR_3, zltL_3, zltR_3, zeq_3, zxl_3, zil_3, zmL_4, zmR_4, zaL_4, zaR_4, zleL_4, zleR_4, zltL_4, zltR_4, zeq_4, zxl_4, zil_4, zmL_5, zmR_5, zaL_5, zaR_5, zleL_5, zleR_5, zltL_5, zltR_5, zeq_5, zxl_5, zil_5, zmL_6, zmR_6, zaL_6, zaR_6, zleL_6, zleR_6, zltL_6, zltR_6, zeq_6, zxl_6, zil_6, zmL_7, zmR_7, zaL_7, zaR_7, zleL_7, zleR_7, zltL_7, zltR_7, zeq_7, zxl_7, zil_7, zmL_8, zmR_8, zaL_8, zaR_8, zleL_8, zleR_8, zltL_8, zltR_8, zeq_8, zxl_8, zil_8, zmL_9, zmR_9, zaL_9, zaR_9, zleL_9, zleR_9, zltL_9, zltR_9, zeq_9, zxl_9, zil_9, zmL_10, zmR_10, zaL_10, zaR_10, zleL_10, zleR_10, zltL_10, zltR_10, zeq_10, zxl_10, zil_10, zmL_14, zmR_14, zaL_14, zaR_14, zleL_14, zleR_14, zltL_14, zltR_14, zeq_14, zxl_14, zil_14, zmL_15, zmR_15, zaL_15, zaR_15, zleL_15, zleR_15, zltL_15, zltR_15, zeq_15, zxl_15, zil_15, zmL_16, zmR_16, zaL_16, zaR_16, zleL_16, zleR_16, zltL_16, zltR_16, zeq_16, zxl_16, zil_16, zmL_20, zmR_20, zaL_20, zaR_20, zleL_20, zleR_20, zltL_20, zltR_20, zeq_20, zxl_20, zil_20, zmL_22, zmR_22, zaL_22, zaR_22, zleL_22, zleR_22, zltL_22, zltR_22, zeq_22, zxl_22, zil_22, zmL_23, zmR_23, zaL_23, zaR_23, zleL_23, zleR_23, zltL_23, zltR_23, zeq_23, zxl_23, zil_23, zmL_24, zmR_24, zaL_24, zaR_24, zleL_24, zleR_24, zltL_24, zltR_24, zeq_24, zxl_24, zil_24, zmL_25, zmR_25, zaL_25, zaR_25, zleL_25, zleR_25, zltL_25, zltR_25, zeq_25, zxl_25, zil_25, zmL_26, zmR_26, zaL_26, zaR_26, zleL_26, zleR_26, zltL_26, zltR_26, zeq_26, zxl_26, zil_26, zmL_32, zmR_32, zaL_32, zaR_32, zleL_32, zleR_32, zltL_32, zltR_32, zeq_32, zxl_32, zil_32, zmL_40, zmR_40, zaL_40, zaR_40, zleL_40, zleR_40, zltL_40, zltR_40, zeq_40, zxl_40, zil_40, zmL_49, zmR_49, zaL_49, zaR_49, zleL_49, zleR_49, zltL_49, zltR_49, zeq_49, zxl_49, zil_49, zmL_58, zmR_58, zaL_58, zaR_58, zleL_58, zleR_58, zltL_58, zltR_58, zeq_58, zxl_58, zil_58, zmL_99, zmR_99, zaL_99, zaR_99, zleL_99, zleR_99, zltL_99, zltR_99, zeq_99, zxl_99, zil_99, zmL_100, zmR_100, zaL_100, zaR_100, zleL_100, zleR_100, zltL_100, zltR_100, zeq_100, zxl_100, zil_100, zmL_107, zmR_107, zaL_107, zaR_107, zleL_107, zleR_107, zltL_107, zltR_107, zeq_107, zxl_107, zil_107, zmL_126, zmR_126, zaL_126, zaR_126, zleL_126, zleR_126, zltL_126, zltR_126, zeq_126, zxl_126, zil_126, zmL_1000, zmR_1000, zaL_1000, zaR_1000, zleL_1000, zleR_1000, zltL_1000, zltR_1000, zeq_1000, zxl_1000, zil_1000, zmL_1605, zmR_1605, zaL_1605, zaR_1605, zleL_1605, zleR_1605, zltL_1605, zltR_1605, zeq_1605, zxl_1605, zil_1605]
    rw [if_neg (by omega), H.c (by omega) (by omega), nI_1]
  · refine ⟨fun k hk => ?_, fun k hk => ?_, fun k hk => ?_, ?_, ?_⟩
    · rw [zpi_r, zpi_r, if_neg (by omega), if_neg (by omega)]; exact H.2.2.2.1 k hk
    · rw [zpi_r, zpi_r]
      show _ = nI (zu _ _ _ k)
      by_cases c : k = p * 7 + q
      · rw [if_pos ⟨rfl, by omega⟩, c, zu_s]
      · rw [if_neg (by omega), if_neg (by omega), zu_n c]; exact H.2.2.2.2.1 k hk
    · rw [zpi_r, zpi_r, if_neg (by omega)]
      show _ = nI (zu _ _ _ k)
      by_cases c : k = p
      · rw [if_pos ⟨rfl, by omega⟩, c, zu_s]
      · rw [if_neg (by omega), zu_n c]; exact H.2.2.2.2.2.1 k hk
    · rw [zpi_r, zpi_r, if_neg (by omega), if_neg (by omega)]; exact H.a
    · rw [zpi_r, zpi_r, if_neg (by omega), if_neg (by omega)]; exact H.d
end M1
