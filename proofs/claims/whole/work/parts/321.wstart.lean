/-! the start: classes, arrays, strings, statics -/
theorem ls_prim {args : Array Value} {s : State} {ty : FieldType} (h : (Cond.arrayClass ty).before args s = true) : ∃ cA, ArrOfT s cA ty ∧ s.vm.findClass ("[" ++ ty.toString) = some cA := by
  obtain ⟨c, k, comp, h1, h2, h3⟩ := Cond.arrayClass_spec (args := args) (first := s) (o := none) (s := s) (idx := []) h
  exact ⟨c, fun n z => ⟨fun k h => (by cases h), k, h2, comp, h3⟩, h1⟩
theorem ls_obj {s : State} {C : String} (h : va_AO C s) : ∃ cA, ArrOfT s cA (.object C) ∧ va_RA s cA (.object C) := by
  obtain ⟨comp, c, k, f4, _, h2, h3, f1⟩ := Cond.arrayOver_spec (args := #[]) (first := s) (o := none) (s := s) (idx := []) h
  exact ⟨c, fun n z => ⟨fun k h => (by cases h), k, h2, comp, h3⟩, k, comp, h2, h3, f4, f1⟩
theorem ls_cls {args : Array Value} {s : State} (hts : ∀ w ∈ zTb, w.before args s = true) : ∃ (dC : Nat → ClassId) (dI : Nat → Nat → Nat), ∀ (k : Nat) (q : vw_C), vwCl[k]? = some q → u_Kn s q.1 q.2.1 q.2.2 (dC k) (dI k) := by
  obtain ⟨c0, i0, k0⟩ := u_known (C := RX0) (T := TX0) (N := 7) (n := 7) hts lay_0 (hts _ q_293)
  obtain ⟨c1, i1, k1⟩ := u_known (C := RX1) (T := TX1) (N := 12) (n := 12) hts lay_1 (hts _ q_175)
  obtain ⟨c2, i2, k2⟩ := u_known (C := RX2) (T := TX2) (N := 5) (n := 5) hts lay_2 (hts _ q_413)
  obtain ⟨c3, i3, k3⟩ := u_known (C := RX3) (T := TX3) (N := 3) (n := 3) hts lay_3 (hts _ q_444)
  obtain ⟨c4, i4, k4⟩ := u_known (C := RX5) (T := TX5) (N := 11) (n := 11) hts lay_4 (hts _ q_169)
  obtain ⟨c5, i5, k5⟩ := u_known (C := RX6) (T := TX6) (N := 6) (n := 6) hts lay_5 (hts _ q_284)
  obtain ⟨c6, i6, k6⟩ := u_known (C := RX7) (T := TX7) (N := 6) (n := 6) hts lay_6 (hts _ q_383)
  obtain ⟨c7, i7, k7⟩ := u_known (C := RX8) (T := TX8) (N := 6) (n := 6) hts lay_7 (hts _ q_134)
  obtain ⟨c8, i8, k8⟩ := u_known (C := RX9) (T := TX9) (N := 2) (n := 2) hts lay_8 (hts _ q_357)
  obtain ⟨c9, i9, k9⟩ := u_known (C := RX10) (T := TX10) (N := 5) (n := 5) hts lay_9 (hts _ q_351)
  obtain ⟨c10, i10, k10⟩ := u_known (C := RX11) (T := TX11) (N := 10) (n := 10) hts lay_10 (hts _ q_126)
  obtain ⟨c11, i11, k11⟩ := u_known (C := RX12) (T := TX12) (N := 52) (n := 52) hts lay_11 (hts _ q_1286)
  refine ⟨fun k => match k with | 0 => c0 | 1 => c1 | 2 => c2 | 3 => c3 | 4 => c4 | 5 => c5 | 6 => c6 | 7 => c7 | 8 => c8 | 9 => c9 | 10 => c10 | _ => c11, fun k => match k with | 0 => i0 | 1 => i1 | 2 => i2 | 3 => i3 | 4 => i4 | 5 => i5 | 6 => i6 | 7 => i7 | 8 => i8 | 9 => i9 | 10 => i10 | _ => i11, ?_⟩
  intro k q hq
  match k, hq with
  | 0, hq => cases hq; exact k0
  | 1, hq => cases hq; exact k1
  | 2, hq => cases hq; exact k2
  | 3, hq => cases hq; exact k3
  | 4, hq => cases hq; exact k4
  | 5, hq => cases hq; exact k5
  | 6, hq => cases hq; exact k6
  | 7, hq => cases hq; exact k7
  | 8, hq => cases hq; exact k8
  | 9, hq => cases hq; exact k9
  | 10, hq => cases hq; exact k10
  | 11, hq => cases hq; exact k11
  | k + 12, hq => exact absurd hq (by simp [vwCl])
theorem ls_K {args : Array Value} {s : State} (hts : ∀ w ∈ zTb, w.before args s = true) (hS : va_AO "VoteAgainst$Standing" s) (hM : va_AO "VoteAgainst$Moment" s) : ∃ (dC : Nat → ClassId) (dI : Nat → Nat → Nat) (ar : Nat → ClassId), ∀ (X : (Nat → Nat) × (Nat → Nat) × Value) (Y : Nat → Nat), va_K (dC, dI) vwCl (zTy (dC, dI, (ar, X), Y)) s := by
  obtain ⟨dC, dI, hC⟩ := ls_cls hts
  obtain ⟨a0, b0, d0⟩ := ls_prim (ty := .int) (hts _ q_223)
  obtain ⟨a1, b1, d1⟩ := ls_prim (ty := .long) (hts _ q_222)
  obtain ⟨a2, b2, d2⟩ := ls_prim (ty := .boolean) (hts _ q_1452)
  obtain ⟨a3, b3, d3⟩ := ls_prim (ty := .char) (hts _ q_167)
  obtain ⟨a4, b4, d4⟩ := ls_obj hS
  obtain ⟨a5, b5, d5⟩ := ls_obj hM
  refine ⟨dC, dI, fun k => if k = 20 then a0 else if k = 21 then a1 else if k = 22 then a2 else if k = 23 then a3 else if k = 24 then a4 else a5, fun X Y => ⟨hC, ?_⟩⟩
  intro k q hq
  match k, hq with
  | 0, hq => cases hq; exact ⟨b0, d0⟩
  | 1, hq => cases hq; exact ⟨b1, d1⟩
  | 2, hq => cases hq; exact ⟨b2, d2⟩
  | 3, hq => cases hq; exact ⟨b3, d3⟩
  | 4, hq => cases hq; exact ⟨b4, d4⟩
  | 5, hq => cases hq; exact ⟨b5, d5⟩
  | k + 6, hq => exact absurd hq (by simp [zTy])
def ltm (i : Nat) : Term := if i = 0 then Term.string "VoteAgainst$Tape" 49 else Term.string "VoteAgainst$Tape" 60
theorem ls_two {P : Nat → Prop} (h0 : P 0) (h1 : P 1) : ∀ i : Nat, i < 2 → P i := by
  intro i hi
  match i, hi with
  | 0, _ => exact h0
  | 1, _ => exact h1
theorem ls_str {args : Array Value} {s : State} {A : Nat → Prop} (hs : ∀ w ∈ lfl, w.before args s = true) (hA : ∀ a : Nat, a < s.heap.size → ¬ A a) : ∃ adK adV : Nat → Nat, vk_S 2 zlen zbyt adK adV A s s.heap ∧ ∀ i : Nat, i < 2 → (ltm i).eval args s none [] s = some (.ref (adK i)) := by
  refine vk_Sof (N := 2) (tm := ltm) (ls_two (by decide) (by decide)) (ls_two (hs _ lf_exa) (hs _ lf_exb)) (ls_two (hs _ lf_coa) (hs _ lf_cob)) (ls_two (hs _ lf_ara) (hs _ lf_arb)) (ls_two (hs _ lf_lea) (hs _ lf_leb)) (ls_two (fun j hj => hs _ (List.mem_of_getElem? (lf_ela j hj))) (fun j hj => hs _ (List.mem_of_getElem? (lf_elb j hj)))) (fun i j hi hj hne => ?_) hA
  match i, j, hi, hj with
  | 0, 0, _, _ => exact absurd rfl hne
  | 0, 1, _, _ => exact Or.inr (hs _ lf_ne)
  | 1, 0, _, _ => exact Or.inl (hs _ lf_ne)
  | 1, 1, _, _ => exact absurd rfl hne
theorem ls_all {args : Array Value} {s : State} (hts : ∀ w ∈ lw_tbl, w.before args s = true) (hs : ∀ w ∈ lfl, w.before args s = true) : ∃ (dC : Nat → ClassId) (dI : Nat → Nat → Nat) (X : (Nat → ClassId) × (Nat → Nat) × (Nat → Nat) × Value), X.2.2.2.category = 1 ∧ (∀ ad, kE (dC, dI, X, ad) s) ∧ (∀ ad, zSA (fun q => s.heap.size ≤ q) (dC, dI, X, ad) s s.heap) ∧ xS (fun q => s.heap.size ≤ q) s s.heap := by
  have hz : ∀ w ∈ zTb, w.before args s = true := fun w hw => hts w (List.mem_filter.mp hw).1
  have hA : ∀ a : Nat, a < s.heap.size → ¬ (fun q => s.heap.size ≤ q) a := fun a h => Nat.not_le.mpr h
  have hS : va_AO "VoteAgainst$Standing" s := va_AO.of (hts _ lt_450)
  have hM : va_AO "VoteAgainst$Moment" s := va_AO.of (hts _ lt_442)
  obtain ⟨dC, dI, ar, hK⟩ := ls_K hz hS hM
  obtain ⟨adK, adV, hst, hev⟩ := ls_str hs hA
  have hn : ∀ x ∈ kNst, va_Nw (.methodLinkNest x.1 x.2.1 x.2.2.1 x.2.2.2) s := by
    intro x hx
    simp only [kNst, List.mem_cons, List.not_mem_nil, or_false] at hx
    rcases hx with rfl | rfl | rfl | rfl | rfl
    · exact va_Nw.of rfl (hts _ lt_135)
    · exact va_Nw.of rfl (hts _ lt_170)
    · exact va_Nw.of rfl (hts _ lt_176)
    · exact va_Nw.of rfl (hts _ lt_358)
    · exact va_Nw.of rfl (hts _ lt_419)
  have hd : ∀ x ∈ zDc, va_Nw (.declares x) s := by
    intro x hx
    simp only [zDc, List.mem_cons, List.not_mem_nil, or_false] at hx
    rcases hx with rfl | rfl
    · exact va_Nw.of rfl (hts _ lt_513)
    · exact va_Nw.of rfl (hts _ lt_671)
  have hr0 : vk_R "VoteAgainst$Tape" 49 zt0 (adK 0) s := vk_R.of (hts _ lt_610) (hev 0 (by decide))
  have hr1 : vk_R "VoteAgainst$Tape" 60 zt1 (adK 1) s := vk_R.of (hts _ lt_554) (hev 1 (by decide))
  have hc : va_Z "java/lang/String" "COMPACT_STRINGS" "Z" (.int 1) (fun q => s.heap.size ≤ q) s s.heap := by
    obtain ⟨w, h1, h2⟩ := Cond.eq_one (args := args) (first := s) (o := none) (s := s) (idx := []) (hs _ lf_cs)
    have e : w = .int 1 := (Option.some.inj h2).symm
    subst e
    exact va_Zof (hts _ lt_564) (hz _ q_113) h1 hA
  have hx : xS (fun q => s.heap.size ≤ q) s s.heap := ⟨vx_Zqof (hts _ lt_1245) (hz _ q_121) (hs _ lf_us) hA, vx_Zqof (hts _ lt_1247) (hz _ q_121) (hs _ lf_ss) hA, va_Nw.of rfl (hts _ lt_1221), va_Nw.of rfl (hts _ lt_1223), va_Nw.of rfl (hts _ lt_1225), va_Nw.of rfl (hts _ lt_1220)⟩
  obtain ⟨sv, hcat, hf⟩ : ∃ sv : Value, sv.category = 1 ∧ va_Z "jdk/internal/util/Preconditions" "SIOOBE_FORMATTER" "Ljava/util/function/BiFunction;" sv (fun q => s.heap.size ≤ q) s s.heap := by
    rcases va_Zqof (hts _ lt_580) (hz _ q_115) (hs _ lf_sf) hA with h | ⟨t, h⟩
    · exact ⟨.null, rfl, h⟩
    · exact ⟨.ref t, rfl, h⟩
  exact ⟨dC, dI, (ar, adK, adV, sv), hcat, fun ad => ⟨hK _ ad, hS, hM, hn⟩, fun ad => ⟨hst, hr0, hr1, hc, hf, hd⟩, hx⟩
