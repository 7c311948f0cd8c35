/-! reading: people -/
section N9
variable {T : zTp} {q q1 : Nat} {h h' hc hm hc1 hm1 : zH} {A : Nat → Nat → Prop} {D : zDr}
/-- a person more -/
def dAdd (D : zDr) (nm : List Nat) (k a e : Nat) : zDr := ((rn (dR D) + 1, zu (rk (dR D)) (rn (dR D)) k, zu (ra (dR D)) (rn (dR D)) a, zu (re (dR D)) (rn (dR D)) e, rh (dR D), rl (dR D), ry (dR D), rb (dR D), rg (dR D), rs (dR D)), (fun j => if j = rn (dR D) then nm else dnm D j), dgr D, don D)
theorem dAdd_I (J : DI D) (h7 : rn (dR D) < 7) {nm : List Nat} {k a e : Nat} (hn : WI nm) (hk : k ≤ 3) (ha : a ≤ 99) (he : e ≤ 9) : DI (dAdd D nm k a e) := by
  refine ⟨⟨by show rn (dR D) + 1 ≤ 7; omega, fun p hp => ?_, J.1.2.2⟩, fun p hp => ?_, fun p hp => ?_, J.2.2.2⟩
  · have hp : p < rn (dR D) + 1 := hp
    show (if p = rn (dR D) then k else rk (dR D) p) ≤ 3 ∧ (if p = rn (dR D) then a else ra (dR D) p) ≤ 99 ∧ (if p = rn (dR D) then e else re (dR D) p) ≤ 9 ∧ ∀ q, rh (dR D) p = some q → q < rn (dR D) + 1 ∧ q ≠ p
    by_cases c : p = rn (dR D)
    · rw [if_pos c, if_pos c, if_pos c]
      exact ⟨hk, ha, he, fun q z => by rw [J.2.1 p (by omega)] at z; cases z⟩
    · rw [if_neg c, if_neg c, if_neg c]
      have := J.1.2.1 p (by omega)
      exact ⟨this.1, this.2.1, this.2.2.1, fun q z => ⟨by have := (this.2.2.2 q z).1; omega, (this.2.2.2 q z).2⟩⟩
  · have hp : rn (dR D) + 1 ≤ p := hp
    exact J.2.1 p (by omega)
  · have hp : p < rn (dR D) + 1 := hp
    show WI (if p = rn (dR D) then nm else dnm D p)
    by_cases c : p = rn (dR D)
    · rw [if_pos c]; exact hn
    · rw [if_neg c]; exact J.2.2.1 p (by omega)
theorem e_addPerson (J : DI D) (C : DCd D q h) (h7 : rn (dR D) < 7) (nm : List Nat) (k a e : Nat) : ∃ h', g_X5_addPerson h 14 (w32 nm) (nI k) (nI a) (nI e) = some h' ∧ DCd (dAdd D nm k a e) q h' ∧ zsm (fun x j => (x = 14 ∧ j = 7) ∨ ((x = 15 ∨ x = 16 ∨ x = 17 ∨ x = 18) ∧ j = rn (dR D))) h h' := by
  have z : zR 14 0 = 15 ∧ zR 14 1 = 16 ∧ zR 14 2 = 17 ∧ zR 14 3 = 18 := by decide +kernel
  have c7 := C.1.1
  have x1 : zsm (fun x j => x = 15 ∧ j = rn (dR D)) h (zpl h 15 (rn (dR D)) (w32 nm)) := zsm.pl ⟨rfl, rfl⟩
  have x2 : zsm (fun x j => x = 16 ∧ j = rn (dR D)) (zpl h 15 (rn (dR D)) (w32 nm)) (zpi (zpl h 15 (rn (dR D)) (w32 nm)) 16 (rn (dR D)) (nI k)) := zsm.pi ⟨rfl, rfl⟩
  generalize e1 : zpl h 15 (rn (dR D)) (w32 nm) = h1 at x1 x2
  have y1 : h1.2 15 (rn (dR D)) = w32 nm := by rw [← e1, zpl_r, if_pos ⟨rfl, rfl⟩]
  have s1 : h1.1 14 7 = nI (rn (dR D)) := by rw [(x1 _ _ (by omega)).1]; exact c7
  generalize e2 : zpi h1 16 (rn (dR D)) (nI k) = h2 at x2
  have y2 : h2.1 16 (rn (dR D)) = nI k := by rw [← e2, zpi_s]
  have s2 : h2.1 14 7 = nI (rn (dR D)) := by rw [(x2 _ _ (by omega)).1]; exact s1
  have x3 : zsm (fun x j => x = 17 ∧ j = rn (dR D)) h2 (zpi h2 17 (rn (dR D)) (nI a)) := zsm.pi ⟨rfl, rfl⟩
  generalize e3 : zpi h2 17 (rn (dR D)) (nI a) = h3 at x3
  have y3 : h3.1 17 (rn (dR D)) = nI a := by rw [← e3, zpi_s]
  have s3 : h3.1 14 7 = nI (rn (dR D)) := by rw [(x3 _ _ (by omega)).1]; exact s2
  have x4 : zsm (fun x j => x = 18 ∧ j = rn (dR D)) h3 (zpi h3 18 (rn (dR D)) (nI e)) := zsm.pi ⟨rfl, rfl⟩
  generalize e4 : zpi h3 18 (rn (dR D)) (nI e) = h4 at x4
  have y4 : h4.1 18 (rn (dR D)) = nI e := by rw [← e4, zpi_s]
  have s4 : h4.1 14 7 = nI (rn (dR D)) := by rw [(x4 _ _ (by omega)).1]; exact s3
  have x5 : zsm (fun x j => x = 14 ∧ j = 7) h4 (zpi h4 14 7 (nI (rn (dR D) + 1))) := zsm.pi ⟨rfl, rfl⟩
  have w : zsm (fun x j => (x = 14 ∧ j = 7) ∨ ((x = 15 ∨ x = 16 ∨ x = 17 ∨ x = 18) ∧ j = rn (dR D))) h (zpi h4 14 7 (nI (rn (dR D) + 1))) := ((((x1.mono (fun a k z => by omega)).tr (x2.mono (fun a k z => by omega))).tr (x3.mono (fun a k z => by omega))).tr (x4.mono (fun a k z => by omega))).tr (x5.mono (fun a k z => by omega))
  refine ⟨zpi h4 14 7 (nI (rn (dR D) + 1)), ?_, ?_, w⟩
  · unfold g_X5_addPerson
    rw [c7, if_neg (by rw [zleL_7 (by omega)]; omega), zin_t h7 (by omega), zgu_t, zx_nI (by omega), z.1, z.2.1, z.2.2.1, z.2.2.2, e1, zlet_e, s1, zin_t h7 (by omega), zgu_t, zx_nI (by omega), e2, zlet_e, s2, zin_t h7 (by omega), zgu_t, zx_nI (by omega), e3, zlet_e, s3, zin_t h7 (by omega), zgu_t, zx_nI (by omega), e4, zlet_e, s4, nI_1, zlet_e]
  · obtain ⟨a1, r2, r3, r4, len, l1, l2, l3, l4⟩ := C
    obtain ⟨a1, a2, a3, a4, a5, a6, a7, a8⟩ := a1
    refine ⟨⟨by rw [zpi_s]; rfl, by rw [(w _ _ (by omega)).1]; exact a2, by rw [(w _ _ (by omega)).1]; exact a3, by rw [(w _ _ (by omega)).1]; exact a4, fun p hp => ?_, fun p hp => ?_, fun p hp => ?_, fun p hp => by rw [(w _ _ (by omega)).1]; exact a8 p hp⟩, fun j hj => by rw [(w _ _ (by omega)).1]; exact r2 j hj, fun p hp => ?_, ?_, len, l1, by rw [(w _ _ (by omega)).1]; exact l2, l3.same (w _ _ (by omega)).1 (w _ _ (by omega)).1 (fun j _ => (w _ _ (by omega)).1), l4.same (w _ _ (by omega)).1 (w _ _ (by omega)).1 (fun j _ => (w _ _ (by omega)).1)⟩
    · have hp : p < rn (dR D) + 1 := hp
      show _ = nI (if p = rn (dR D) then k else rk (dR D) p)
      by_cases c : p = rn (dR D)
      · rw [if_pos c, c, (x5 _ _ (by omega)).1, (x4 _ _ (by omega)).1, (x3 _ _ (by omega)).1]; exact y2
      · rw [if_neg c, (w _ _ (by omega)).1]; exact a5 p (by omega)
    · have hp : p < rn (dR D) + 1 := hp
      show _ = nI (if p = rn (dR D) then a else ra (dR D) p)
      by_cases c : p = rn (dR D)
      · rw [if_pos c, c, (x5 _ _ (by omega)).1, (x4 _ _ (by omega)).1]; exact y3
      · rw [if_neg c, (w _ _ (by omega)).1]; exact a6 p (by omega)
    · have hp : p < rn (dR D) + 1 := hp
      show _ = nI (if p = rn (dR D) then e else re (dR D) p)
      by_cases c : p = rn (dR D)
      · rw [if_pos c, c, (x5 _ _ (by omega)).1]; exact y4
      · rw [if_neg c, (w _ _ (by omega)).1]; exact a7 p (by omega)
    · have hp : p < rn (dR D) + 1 := hp
      show _ = w32 (if p = rn (dR D) then nm else dnm D p)
      by_cases c : p = rn (dR D)
      · rw [if_pos c, c, (x5 _ _ (by omega)).2, (x4 _ _ (by omega)).2, (x3 _ _ (by omega)).2, (x2 _ _ (by omega)).2]; exact y1
      · rw [if_neg c, (w _ _ (by omega)).2]; exact r3 p (by omega)
    · obtain ⟨m, m1, m2, m3⟩ := r4
      exact ⟨m, m1, by rw [(w _ _ (by omega)).1]; exact m2, m3⟩
/-- the same, in the reference: kind, age and envy stand already -/
theorem e_addM (J : DI D) (M : DMd D q h) (h7 : rn (dR D) < 7) (nm : List Nat) (k a e : Nat) (e1 : h'.1 143 (7 + rn (dR D)) = nI k) (e2 : h'.1 144 (7 + rn (dR D)) = nI a) (e3 : h'.1 145 (7 + rn (dR D)) = nI e) (e4 : h'.1 146 (7 + rn (dR D)) = -1) (e5 : h'.2 142 (7 + rn (dR D)) = w27 nm) (e6 : h'.1 141 4 = nI (rn (dR D) + 1)) (w : zsm (fun x j => AVm x j ∨ (x = 141 ∧ j = 4) ∨ ((142 ≤ x ∧ x ≤ 146) ∧ j = 7 + rn (dR D))) h h') (hq : q ≤ q1) : DMd (dAdd D nm k a e) q1 h' := by
  obtain ⟨a1, r2, r3, r4, len, l1, l2, l3, l4⟩ := M
  obtain ⟨a1, a2, a3, a4, a5, a6, a7, a8⟩ := a1
  refine ⟨⟨e6, by rw [(w _ _ (by unfold AVm AM1; omega)).1]; exact a2, by rw [(w _ _ (by unfold AVm AM1; omega)).1]; exact a3, by rw [(w _ _ (by unfold AVm AM1; omega)).1]; exact a4, fun p hp => ?_, fun p hp => ?_, fun p hp => ?_, fun p hp => ?_⟩, fun j hj => ⟨by rw [(w _ _ (by unfold AVm AM1; omega)).1]; exact (r2 j hj).1, by rw [(w _ _ (by unfold AVm AM1; omega)).1]; exact (r2 j hj).2⟩, fun p hp => ?_, ?_, len, by omega, by rw [(w _ _ (by unfold AVm AM1; omega)).1]; exact l2, l3.same (w _ _ (by unfold AVm AM1; omega)).1 (w _ _ (by unfold AVm AM1; omega)).1 (fun j _ => (w _ _ (by unfold AVm AM1; omega)).1), l4.same (w _ _ (by unfold AVm AM1; omega)).1 (w _ _ (by unfold AVm AM1; omega)).1 (fun j _ => (w _ _ (by unfold AVm AM1; omega)).1)⟩
  · have hp : p < rn (dR D) + 1 := hp
    show _ = nI (if p = rn (dR D) then k else rk (dR D) p)
    by_cases c : p = rn (dR D)
    · rw [if_pos c, c]; exact e1
    · rw [if_neg c, (w _ _ (by unfold AVm AM1; omega)).1]; exact a5 p (by omega)
  · have hp : p < rn (dR D) + 1 := hp
    show _ = nI (if p = rn (dR D) then a else ra (dR D) p)
    by_cases c : p = rn (dR D)
    · rw [if_pos c, c]; exact e2
    · rw [if_neg c, (w _ _ (by unfold AVm AM1; omega)).1]; exact a6 p (by omega)
  · have hp : p < rn (dR D) + 1 := hp
    show _ = nI (if p = rn (dR D) then e else re (dR D) p)
    by_cases c : p = rn (dR D)
    · rw [if_pos c, c]; exact e3
    · rw [if_neg c, (w _ _ (by unfold AVm AM1; omega)).1]; exact a7 p (by omega)
  · have hp : p < rn (dR D) + 1 := hp
    show _ = zo (rh (dR D) p)
    by_cases c : p = rn (dR D)
    · rw [J.2.1 p (by omega), c]; exact e4
    · rw [(w _ _ (by unfold AVm AM1; omega)).1]; exact a8 p (by omega)
  · have hp : p < rn (dR D) + 1 := hp
    show _ = w27 (if p = rn (dR D) then nm else dnm D p)
    by_cases c : p = rn (dR D)
    · rw [if_pos c, c]; exact e5
    · rw [if_neg c, (w _ _ (by unfold AVm AM1; omega)).2]; exact r3 p (by omega)
  · obtain ⟨m, m1, m2, m3⟩ := r4
    exact ⟨m, m1, by rw [(w _ _ (by unfold AVm AM1; omega)).1]; exact m2, m3⟩
end N9
