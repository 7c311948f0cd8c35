/-! at the start class and reference stand alike -/
def R0 : zRp := (0, fun _ => 0, fun _ => 0, fun _ => 0, fun _ => none, false, false, 7, none, none)
def Z0 : zZ := (fun _ => 0, (0, fun _ => 0, fun _ => 0, fun _ => 0), (0, fun _ => 0, fun _ => false), fun _ => (false, ifr 0 (fun _ => 0), (0, fun _ => 0, fun _ => 0, fun _ => 0), (0, fun _ => 0, fun _ => false)), (0, fun _ => 0), fun _ => [])
theorem h0_z (t k : Nat) (h141 : t ≠ 141) (h146 : t ≠ 146) (h8 : k ≠ 8 ∨ (t ≠ 3 ∧ t ≠ 14)) (h3 : k ≠ 3 ∨ (t ≠ 37 ∧ t ≠ 45 ∧ t ≠ 52 ∧ t ≠ 59 ∧ t ≠ 66)) : h0.1 t k = 0 := by
  show h0i t k = 0
  unfold h0i
  rw [if_neg h141, if_neg h146]
  by_cases a1 : t = 3
  · rw [if_pos a1]; show (if k = 8 then (7 : Int32) else 0) = 0; exact if_neg (by omega)
  rw [if_neg a1]
  by_cases a2 : t = 14
  · rw [if_pos a2]; show (if k = 8 then (7 : Int32) else 0) = 0; exact if_neg (by omega)
  rw [if_neg a2]
  by_cases a3 : t = 37
  · rw [if_pos a3]; show (if k = 3 then (1022 : Int32) else 0) = 0; exact if_neg (by omega)
  rw [if_neg a3]
  by_cases a4 : t = 45
  · rw [if_pos a4]; show (if k = 3 then (1022 : Int32) else 0) = 0; exact if_neg (by omega)
  rw [if_neg a4]
  by_cases a5 : t = 52
  · rw [if_pos a5]; show (if k = 3 then (1022 : Int32) else 0) = 0; exact if_neg (by omega)
  rw [if_neg a5]
  by_cases a6 : t = 59
  · rw [if_pos a6]; show (if k = 3 then (1022 : Int32) else 0) = 0; exact if_neg (by omega)
  rw [if_neg a6]
  by_cases a7 : t = 66
  · rw [if_pos a7]; show (if k = 3 then (1022 : Int32) else 0) = 0; exact if_neg (by omega)
  rw [if_neg a7]
theorem h0_n {p : Nat} {P : Prop} (h : p < 0) : P := absurd h (Nat.not_lt_zero p)
theorem sc0 (t : Nat) (h : t = 29 ∨ t = 40) : SC 0 (ifr 0 (fun _ => 0)) h0 t := by
  refine ⟨fun k _ => h0_z _ _ (by omega) (by omega) (Or.inr (by omega)) (Or.inr (by omega)), fun k _ => h0_z _ _ (by omega) (by omega) (Or.inr (by omega)) (Or.inr (by omega)), fun p hp => h0_n hp, h0_z _ _ (by omega) (by omega) (Or.inr (by omega)) (Or.inr (by omega)), h0_z _ _ (by omega) (by omega) (Or.inr (by omega)) (Or.inr (by omega))⟩
theorem rel0_I : RelI R0 (ifr 0 (fun _ => 0)) 0 (fun _ => ifr 0 (fun _ => 0)) Z0 := by
  refine ⟨⟨Nat.zero_le 7, fun p hp => h0_n hp, by decide, by decide⟩, ⟨?_, fun k _ => Nat.zero_le 9, fun p q _ _ _ => rfl, ?_⟩, fun i hi => h0_n hi, ⟨fun k _ => Nat.zero_le 9, ⟨Nat.zero_le 40, fun k hk => h0_n hk⟩, ⟨Nat.zero_le 8, fun k hk => h0_n hk⟩, fun m _ hm => Bool.noConfusion hm, Nat.zero_le 1000, fun k hk => h0_n hk, fun p hp => h0_n hp⟩⟩
  · show 2 ^ 0 - 1 < 2 ^ 0
    decide
  · show zsum (fun _ => 1) 0 + zsum (fun _ => 0) 49 ≤ 0
    rw [zsum_0]
    exact Nat.le_refl 0
theorem rel0_hc : HC (zhd Z0) h0 37 := by
  refine ⟨by decide, 1022, by decide, by decide, ?_⟩
  show ∀ b, b < 10 → Nat.testBit 1022 b = (decide (1 ≤ b) && true)
  decide
theorem rel0_C : RelC R0 (ifr 0 (fun _ => 0)) 0 (fun _ => ifr 0 (fun _ => 0)) Z0 h0 := by
  refine ⟨⟨⟨by decide, by decide, by decide, by decide, fun p hp => h0_n hp, fun p hp => h0_n hp, fun p hp => h0_n hp, fun p hp => h0_n hp⟩, ?_, fun k _ => ?_, fun p hp => h0_n hp, sc0 29 (Or.inl rfl), ⟨by decide, fun k hk => h0_n hk⟩, rel0_hc, fun m hm => ⟨?_, fun z => Bool.noConfusion z⟩, by decide, fun k hk => h0_n hk⟩, sc0 40 (Or.inr rfl), ⟨Nat.zero_le 16, 0, by decide, by decide, by decide, fun i hi => h0_n hi⟩⟩
  · show (h0.1 10 8 = h0.1 10 9) ∧ (h0.1 10 10 = h0.1 10 11)
    exact ⟨by decide, by decide⟩
  · rw [h0_z 9 k (by omega) (by omega) (Or.inr (by omega)) (Or.inr (by omega))]
    show (if (0 : Int32) < 0 then (0 : Int32) else 0) = 0
    decide
  · exact h0_z _ 4 (by omega) (by omega) (Or.inl (by omega)) (Or.inl (by omega))
theorem rel0_M : RelM R0 (ifr 0 (fun _ => 0)) 0 (fun _ => ifr 0 (fun _ => 0)) Z0 h0 := by
  refine ⟨⟨⟨by decide, by decide, by decide, by decide, fun p hp => h0_n hp, fun p hp => h0_n hp, fun p hp => h0_n hp, fun p hp => h0_n hp⟩, ?_, fun k _ => ?_, fun p hp => h0_n hp, ⟨by decide, fun k hk => h0_n hk⟩, ⟨by decide, fun k hk => h0_n hk⟩, fun m hm => ⟨?_, fun z => Bool.noConfusion z⟩, by decide, fun k hk => h0_n hk⟩, ⟨fun k _ => ?_, fun k _ => ?_, fun p hp => h0_n hp, by decide, by decide⟩, ⟨Nat.zero_le 16, by decide, fun i hi => h0_n hi⟩, fun p _ => ?_⟩
  · show (h0.1 150 0 = h0.1 149 0) ∧ (h0.1 150 1 = h0.1 149 1)
    exact ⟨by decide, by decide⟩
  · exact h0_z 147 k (by omega) (by omega) (Or.inr (by omega)) (Or.inr (by omega))
  · exact h0_z 175 m (by omega) (by omega) (Or.inr (by omega)) (Or.inr (by omega))
  · exact h0_z 171 _ (by omega) (by omega) (Or.inr (by omega)) (Or.inr (by omega))
  · exact h0_z 171 _ (by omega) (by omega) (Or.inr (by omega)) (Or.inr (by omega))
  · exact h0_z 176 p (by omega) (by omega) (Or.inr (by omega)) (Or.inr (by omega))
theorem rel0 : Rel h0 := ⟨R0, ifr 0 (fun _ => 0), 0, fun _ => ifr 0 (fun _ => 0), Z0, rel0_I, rel0_C, rel0_M⟩
