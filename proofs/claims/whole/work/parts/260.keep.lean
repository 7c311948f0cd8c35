/-! reading: a line without a fault leaves the fault as it was -/
theorem obS {α β : Type} {x : Option α} {f : α → Option β} {r : β} (e : x.bind f = some r) : ∃ v, x = some v ∧ f v = some r := by
  cases x with
  | none => cases e
  | some v => exact ⟨v, rfl, e⟩
theorem obB {x : Option (Bool × zH)} {f : Bool × zH → Option (Bool × zH)} {h' : zH} (e : (x.bind fun v => if (zb v.1) = 0 then (some (false, v.2)) else f v) = some (true, h')) : ∃ h1, x = some (true, h1) ∧ f (true, h1) = some (true, h') := by
  cases x with
  | none => cases e
  | some v =>
    obtain ⟨b, h1⟩ := v
    cases b with
    | false => cases e
    | true => exact ⟨h1, rfl, e⟩
theorem zguS {α : Type} {c : Bool} {k : Option α} {r : α} (e : zgu c k = some r) : k = some r := by
  cases c with
  | false => cases e
  | true => exact e
def KS (T : zTp) (h : zH) (x : Option (Bool × zH)) : Prop := ∀ h', x = some (true, h') → h'.1 13 3 = h.1 13 3 ∧ ∃ q', CT T q' h'
section N11
variable {T : zTp} {q : Nat} {h h' : zH} {D : zDr}
theorem ks_look (I : TI T) (K : CT T q h) (e : g_X8_lookAtNext h 1 = some h') : h'.1 13 3 = h.1 13 3 ∧ ∃ q', CT T q' h' := by
  obtain ⟨h2, e2, K2, w2⟩ := e_look I K
  rw [e2] at e
  cases e
  exact ⟨(w2 _ _ (by unfold AT1; omega)).1, _, K2⟩
theorem ks_fail (c : Int32) {f : Bool × zH → Option (Bool × zH)} (hf : ∀ h1, f (false, h1) = some (false, h1)) : ¬ ((g_X4_fail_c5 h 13 c).bind f = some (true, h')) := by
  intro e
  unfold g_X4_fail_c5 at e
  rw [zlet_e, zbind_s, hf] at e
  cases e
theorem ks_take (I : TI T) (K : CT T q h) (x : Int32) : KS T h (g_X4_take_c5 h 13 x) := by
  intro h' e
  unfold g_X4_take_c5 at e
  rw [rd13.1] at e
  split at e
  · obtain ⟨v, e1, e2⟩ := obS e
    cases e2
    exact ks_look I K e1
  · exact absurd e (ks_fail 1 (fun _ => rfl))
theorem ks_num (I : TI T) (K : CT T q h) (x y : Int32) : KS T h (g_X4_takeNumber_c5 h 13 x y) := by
  intro h' e
  have no : ¬ g_X4_takeNumber_c5_39 13 h = some (true, h') := ks_fail 4 (fun _ => rfl)
  unfold g_X4_takeNumber_c5 at e
  rw [rd13.1] at e
  split at e
  · split at e
    · exact absurd e no
    · split at e
      · rw [zlet_e] at e
        obtain ⟨v, e1, e2⟩ := obS e
        cases e2
        obtain ⟨a, b⟩ := ks_look I (K.vl (t := 13) (by decide) 2 _) e1
        exact ⟨by rw [a, zpi_r, if_neg (by decide)], b⟩
      · exact absurd e no
  · exact absurd e (ks_fail 1 (fun _ => rfl))
theorem ks_either (I : TI T) (K : CT T q h) (x y : Int32) : KS T h (g_X4_takeEither_c5 h 13 x y) := by
  intro h' e
  have a45 : ∀ s, g_X4_takeEither_c5_45 13 s h = some (true, h') → h'.1 13 3 = h.1 13 3 ∧ ∃ q', CT T q' h' := by
    intro s e
    unfold g_X4_takeEither_c5_45 at e
    rw [zlet_e, rd13.1] at e
    obtain ⟨v, e1, e2⟩ := obS e
    cases e2
    obtain ⟨a, b⟩ := ks_look I (K.vl (t := 13) (by decide) 2 _) e1
    exact ⟨by rw [a, zpi_r, if_neg (by decide)], b⟩
  have a28 : g_X4_takeEither_c5_28 13 y h = some (true, h') → h'.1 13 3 = h.1 13 3 ∧ ∃ q', CT T q' h' := by
    intro e
    unfold g_X4_takeEither_c5_28 at e
    split at e
    · exact a45 _ e
    · exact a45 _ e
  unfold g_X4_takeEither_c5 at e
  split at e
  · exact a28 e
  · split at e
    · exact a28 e
    · exact absurd e (ks_fail 1 (fun _ => rfl))
theorem ks_find (I : TI T) (K : CT T q h) : KS T h (g_X4_findPerson_c5 h 13) := by
  intro h' e
  unfold g_X4_findPerson_c5 at e
  obtain ⟨v, _, e2⟩ := obS e
  split at e2
  · exact absurd e2 (ks_fail 1 (fun _ => rfl))
  · obtain ⟨v3, _, e3⟩ := obS e2
    obtain ⟨v4, _, e4⟩ := obS e3
    rw [zlet_e] at e4
    split at e4
    · exact absurd e4 (ks_fail 2 (fun _ => rfl))
    · cases e4
      exact ⟨by rw [zpi_r, if_neg (by decide)], _, K.vl (t := 13) (by decide) 2 _⟩
theorem ks_other (I : TI T) (K : CT T q h) (x : Int32) : KS T h (g_X4_findOther_c5 h 13 x) := by
  intro h' e
  unfold g_X4_findOther_c5 at e
  obtain ⟨h1, e1, e2⟩ := obB e
  obtain ⟨a, q', K'⟩ := ks_find I K _ e1
  split at e2
  · exact absurd e2 (ks_fail 3 (fun _ => rfl))
  · cases e2
    exact ⟨a, q', K'⟩
theorem ks_once (I : TI T) (K : CT T q h) : KS T h (g_X6_takeOnce h 13) := by
  intro h' e
  unfold g_X6_takeOnce at e
  rw [zlet_e] at e
  split at e
  · rw [zlet_e, rd13.1] at e
    obtain ⟨v, e1, e2⟩ := obS e
    cases e2
    obtain ⟨a, b⟩ := ks_look I (K.vl (t := 13) (by decide) 5 _) e1
    exact ⟨by rw [a, zpi_r, if_neg (by decide)], b⟩
  · exact absurd e (ks_fail 3 (fun _ => rfl))
theorem ks_bar (I : TI T) (K : CT T q h) : KS T h (g_X6_readBar h 13) := by
  intro h' e
  unfold g_X6_readBar at e
  obtain ⟨h1, e1, e⟩ := obB e
  obtain ⟨a1, q1, K1⟩ := ks_once I K _ e1
  obtain ⟨h2, e2, e⟩ := obB e
  obtain ⟨a2, q2, K2⟩ := ks_num I K1 _ _ _ e2
  rw [zlet_e] at e
  cases e
  refine ⟨Eq.trans ?_ (a2.trans a1), q2, K2.vl (t := zR 13 1) (by decide +kernel) 8 _⟩
  rw [zpi_r, if_neg (fun z => absurd z.1 (by decide +kernel))]
theorem ks_dead (I : TI T) (K : CT T q h) : KS T h (g_X6_readDead h 13) := by
  intro h' e
  unfold g_X6_readDead at e
  obtain ⟨h1, e1, e⟩ := obB e
  obtain ⟨a1, q1, K1⟩ := ks_once I K _ e1
  obtain ⟨h2, e2, e⟩ := obB e
  obtain ⟨a2, q2, K2⟩ := ks_either I K1 _ _ _ e2
  have k : ∀ s, g_X6_readDead_37 13 s h2 = some (true, h') → h'.1 13 3 = h.1 13 3 ∧ ∃ q', CT T q' h' := by
    intro s e
    unfold g_X6_readDead_37 at e
    have e := zguS e
    rw [zlet_e] at e
    cases e
    refine ⟨Eq.trans ?_ (a2.trans a1), q2, K2.vl (t := zR 13 1) (by decide +kernel) 9 _⟩
    rw [zpi_r, if_neg (fun z => absurd z.1 (by decide +kernel))]
  split at e
  · exact k _ e
  · exact k _ e
theorem ks_ties (I : TI T) (K : CT T q h) : KS T h (g_X6_readTies h 13) := by
  intro h' e
  unfold g_X6_readTies at e
  obtain ⟨h1, e1, e⟩ := obB e
  obtain ⟨a1, q1, K1⟩ := ks_once I K _ e1
  obtain ⟨h2, e2, e⟩ := obB e
  obtain ⟨a2, q2, K2⟩ := ks_either I K1 _ _ _ e2
  have k : ∀ s, g_X6_readTies_37 13 s h2 = some (true, h') → h'.1 13 3 = h.1 13 3 ∧ ∃ q', CT T q' h' := by
    intro s e
    unfold g_X6_readTies_37 at e
    have e := zguS e
    rw [zlet_e] at e
    cases e
    refine ⟨Eq.trans ?_ (a2.trans a1), q2, K2.vl (t := zR 13 1) (by decide +kernel) 10 _⟩
    rw [zpi_r, if_neg (fun z => absurd z.1 (by decide +kernel))]
  split at e
  · exact k _ e
  · exact k _ e
theorem ks_grudge (I : TI T) (K : CT T q h) : KS T h (g_X6_readGrudge h 13) := by
  intro h' e
  unfold g_X6_readGrudge at e
  rw [rd13.1] at e
  obtain ⟨h1, e1, e⟩ := obS e
  obtain ⟨a1, q1, K1⟩ := ks_look I K e1
  obtain ⟨h2, e2, e⟩ := obB e
  obtain ⟨a2, q2, K2⟩ := ks_find I K1 _ e2
  obtain ⟨h3, e3, e⟩ := obS e
  obtain ⟨a3, q3, K3⟩ := ks_look I K2 e3
  obtain ⟨h4, e4, e⟩ := obB e
  obtain ⟨a4, q4, K4⟩ := ks_other I K3 _ _ e4
  rw [zlet_e] at e
  have e := zguS e
  split at e
  · obtain ⟨h5, e5, e⟩ := obS e
    obtain ⟨a5, q5, K5⟩ := ks_look I K4 e5
    obtain ⟨h6, e6, e⟩ := obB e
    obtain ⟨a6, q6, K6⟩ := ks_num I K5 _ _ _ e6
    have e := zguS e
    rw [zlet_e] at e
    cases e
    refine ⟨Eq.trans ?_ (a6.trans (a5.trans (a4.trans (a3.trans (a2.trans a1))))), q6, K6.vl (t := zR (zR 13 1) 5) (by decide +kernel) _ _⟩
    rw [zpi_r, if_neg (fun z => absurd z.1 (by decide +kernel))]
  · exact absurd e (ks_fail 3 (fun _ => rfl))
theorem ks_heir (I : TI T) (K : CT T q h) : KS T h (g_X6_readHeir h 13) := by
  intro h' e
  unfold g_X6_readHeir at e
  rw [rd13.1] at e
  obtain ⟨h1, e1, e⟩ := obS e
  obtain ⟨a1, q1, K1⟩ := ks_look I K e1
  obtain ⟨h2, e2, e⟩ := obB e
  obtain ⟨a2, q2, K2⟩ := ks_find I K1 _ e2
  have e := zguS e
  split at e
  · obtain ⟨h3, e3, e⟩ := obS e
    obtain ⟨a3, q3, K3⟩ := ks_look I K2 e3
    obtain ⟨h4, e4, e⟩ := obB e
    obtain ⟨a4, q4, K4⟩ := ks_other I K3 _ _ e4
    have e := zguS e
    rw [zlet_e] at e
    obtain ⟨h5, e5, e⟩ := obS e
    cases e
    obtain ⟨a5, q5, K5⟩ := ks_look I (K4.vl (t := zR (zR 13 1) 4) (by decide +kernel) _ _) e5
    refine ⟨a5.trans (Eq.trans ?_ (a4.trans (a3.trans (a2.trans a1)))), q5, K5⟩
    rw [zpi_r, if_neg (fun z => absurd z.1 (by decide +kernel))]
  · exact absurd e (ks_fail 3 (fun _ => rfl))
theorem ks_add {x : Int64} {a b c : Int32} (K : CT T q h) (e : g_X5_addPerson h 14 x a b c = some h') : h'.1 13 3 = h.1 13 3 ∧ CT T q h' := by
  unfold g_X5_addPerson at e
  split at e
  · cases e
    exact ⟨rfl, K⟩
  · have e := zguS e
    rw [zlet_e] at e
    have e := zguS e
    rw [zlet_e] at e
    have e := zguS e
    rw [zlet_e] at e
    have e := zguS e
    rw [zlet_e] at e
    rw [zlet_e] at e
    cases e
    have K0 : CT T q (zpl h (zR 14 0) (zx (h.1 14 7)) x) := K
    refine ⟨?_, (((K0.vl (t := zR 14 1) (by decide +kernel) _ _).vl (t := zR 14 2) (by decide +kernel) _ _).vl (t := zR 14 3) (by decide +kernel) _ _).vl (t := 14) (by decide) _ _⟩
    rw [zpi_r, if_neg (fun z => absurd z.1 (by decide +kernel)), zpi_r, if_neg (fun z => absurd z.1 (by decide +kernel)), zpi_r, if_neg (fun z => absurd z.1 (by decide +kernel)), zpi_r, if_neg (fun z => absurd z.1 (by decide +kernel)), zpl_1]
theorem ks_person (I : TI T) (K : CT T q h) : KS T h (g_X6_readPerson h 13) := by
  intro h' e
  unfold g_X6_readPerson at e
  rw [rd13.1, zlet_e] at e
  split at e
  · obtain ⟨h1, e1, e⟩ := obS e
    obtain ⟨a1, q1, K1⟩ := ks_look I K e1
    obtain ⟨v, _, e⟩ := obS e
    split at e
    · exact absurd e (ks_fail 1 (fun _ => rfl))
    · obtain ⟨v6, _, e⟩ := obS e
      obtain ⟨v7, _, e⟩ := obS e
      split at e
      · obtain ⟨h2, e2, e⟩ := obS e
        obtain ⟨a2, q2, K2⟩ := ks_look I K1 e2
        have no : ¬ g_X6_readPerson_100 13 h2 = some (true, h') := ks_fail 1 (fun _ => rfl)
        split at e
        · exact absurd e no
        · split at e
          · rw [zlet_e] at e
            obtain ⟨h3, e3, e⟩ := obS e
            obtain ⟨a3, q3, K3⟩ := ks_look I K2 e3
            obtain ⟨h4, e4, e⟩ := obB e
            obtain ⟨a4, q4, K4⟩ := ks_take I K3 _ _ e4
            obtain ⟨h5, e5, e⟩ := obB e
            obtain ⟨a5, q5, K5⟩ := ks_num I K4 _ _ _ e5
            rw [zlet_e] at e
            obtain ⟨h6, e6, e⟩ := obB e
            obtain ⟨a6, q6, K6⟩ := ks_take I K5 _ _ e6
            obtain ⟨h8, e8, e⟩ := obB e
            obtain ⟨a8, q8, K8⟩ := ks_num I K6 _ _ _ e8
            obtain ⟨h9, e9, e⟩ := obS e
            rw [rd13.2.1] at e9
            cases e
            obtain ⟨a9, K9⟩ := ks_add K8 e9
            exact ⟨a9.trans (a8.trans (a6.trans (a5.trans (a4.trans (a3.trans (a2.trans a1)))))), q8, K9⟩
          · exact absurd e no
      · exact absurd e (ks_fail 3 (fun _ => rfl))
  · exact absurd e (ks_fail 5 (fun _ => rfl))
theorem ks_grows (I : TI T) (K : CT T q h) (C : DCd D q h) (ht : tc T q = 20) : KS T h (g_X6_readGrows h 13) := by
  intro h' e
  have tp := tx_prop (T := T) K.2.1
  have z14 : zR 14 6 = 21 ∧ zR 13 4 = 24 := by decide +kernel
  obtain ⟨len, c1, c2, c3, c4⟩ := C.2.2.2.2
  unfold g_X6_readGrows at e
  cases hd : onc D 3 with
  | true =>
    obtain ⟨h1, e1, _, _⟩ := c_onceY I K C (i := 3) (by decide) ht hd
    rw [e1, zbind_s, zb_f, if_pos rfl] at e
    cases e
  | false =>
    obtain ⟨h1, m, e1, X1, m1, m2, m3, w1⟩ := c_onceN I K C (i := 3) (by decide) ht hd
    have k7 : h1.1 21 7 = nI len := by rw [(w1 _ _ (by unfold AT1; omega)).1]; exact c2
    rw [e1, zbind_s, zb_t, if_neg (by decide), rd13.2.1, z14.1, z14.2, zlet_e] at e
    obtain ⟨⟨v, h3⟩, e3, e⟩ := obS e
    rw [zlet_e] at e
    have w4 : h3.1 13 3 = h1.1 13 3 ∧ ∃ q', CT T q' h3 := by
      rcases e_readLaw I (X1.vl (t := 21) (by decide) 8 (h1.1 21 7)) (b := len) (by omega) (by rw [zpi_r, if_neg (by decide)]; exact k7) with ⟨c, h4, cc1, b1, b2, b3, b4⟩ | ⟨h4, f, v', cc', b1, b2, b3, b4, b5, b6, b7⟩
      · have z : some (nI c, h4) = some (v, h3) := b2.symm.trans e3
        cases z
        exact ⟨by rw [(b4 _ _ (by unfold ALx ALr AT1; omega)).1, zpi_r, if_neg (by decide)], _, b3⟩
      · have z : some ((0 : Int32), h4) = some (v, h3) := b4.symm.trans e3
        cases z
        exact ⟨by rw [(b6 _ _ (by unfold ALx ALr AT1; omega)).1, zpi_r, if_neg (by decide)], _, b5⟩
    obtain ⟨w5, q5, K5⟩ := w4
    split at e
    · cases e
      refine ⟨Eq.trans ?_ (w5.trans (w1 _ _ (by unfold AT1; omega)).1), q5, K5.vl (t := 21) (by decide) _ _⟩
      rw [zpi_r, if_neg (by decide)]
    · exact absurd e (ks_fail _ (fun _ => rfl))
theorem ks_eases (I : TI T) (K : CT T q h) (C : DCd D q h) (ht : tc T q = 21) : KS T h (g_X6_readEases h 13) := by
  intro h' e
  have tp := tx_prop (T := T) K.2.1
  have z14 : zR 14 6 = 21 ∧ zR 13 4 = 24 := by decide +kernel
  obtain ⟨len, c1, c2, c3, c4⟩ := C.2.2.2.2
  unfold g_X6_readEases at e
  cases hd : onc D 4 with
  | true =>
    obtain ⟨h1, e1, _, _⟩ := c_onceY I K C (i := 4) (by decide) ht hd
    rw [e1, zbind_s, zb_f, if_pos rfl] at e
    cases e
  | false =>
    obtain ⟨h1, m, e1, X1, m1, m2, m3, w1⟩ := c_onceN I K C (i := 4) (by decide) ht hd
    have k7 : h1.1 21 7 = nI len := by rw [(w1 _ _ (by unfold AT1; omega)).1]; exact c2
    rw [e1, zbind_s, zb_t, if_neg (by decide), rd13.2.1, z14.1, z14.2, zlet_e] at e
    obtain ⟨⟨v, h3⟩, e3, e⟩ := obS e
    rw [zlet_e] at e
    have w4 : h3.1 13 3 = h1.1 13 3 ∧ ∃ q', CT T q' h3 := by
      rcases e_readLaw I (X1.vl (t := 21) (by decide) 10 (h1.1 21 7)) (b := len) (by omega) (by rw [zpi_r, if_neg (by decide)]; exact k7) with ⟨c, h4, cc1, b1, b2, b3, b4⟩ | ⟨h4, f, v', cc', b1, b2, b3, b4, b5, b6, b7⟩
      · have z : some (nI c, h4) = some (v, h3) := b2.symm.trans e3
        cases z
        exact ⟨by rw [(b4 _ _ (by unfold ALx ALr AT1; omega)).1, zpi_r, if_neg (by decide)], _, b3⟩
      · have z : some ((0 : Int32), h4) = some (v, h3) := b4.symm.trans e3
        cases z
        exact ⟨by rw [(b6 _ _ (by unfold ALx ALr AT1; omega)).1, zpi_r, if_neg (by decide)], _, b5⟩
    obtain ⟨w5, q5, K5⟩ := w4
    split at e
    · cases e
      refine ⟨Eq.trans ?_ (w5.trans (w1 _ _ (by unfold AT1; omega)).1), q5, K5.vl (t := 21) (by decide) _ _⟩
      rw [zpi_r, if_neg (by decide)]
    · exact absurd e (ks_fail _ (fun _ => rfl))
/-- a line with its end -/
theorem ks_clin (I : TI T) (K : CT T q h) (C : DCd D q h) (e : clin h = some (true, h')) : h'.1 13 3 = h.1 13 3 := by
  unfold clin at e
  obtain ⟨h1, e1, e⟩ := obB e
  have e : g_X4_take_c5 h1 13 11 = some (true, h') := by rw [zbid] at e; exact e
  have k : h1.1 13 3 = h.1 13 3 ∧ ∃ q', CT T q' h1 := by
    rw [rl_k K] at e1
    by_cases c12 : tc T q = 12
    · rw [if_pos c12] at e1; exact ks_person I K _ e1
    · rw [if_neg c12] at e1
      by_cases c15 : tc T q = 15
      · rw [if_pos c15] at e1; exact ks_grudge I K _ e1
      · rw [if_neg c15] at e1
        by_cases c16 : tc T q = 16
        · rw [if_pos c16] at e1; exact ks_heir I K _ e1
        · rw [if_neg c16] at e1
          by_cases c17 : tc T q = 17
          · rw [if_pos c17] at e1; exact ks_bar I K _ e1
          · rw [if_neg c17] at e1
            by_cases c18 : tc T q = 18
            · rw [if_pos c18] at e1; exact ks_dead I K _ e1
            · rw [if_neg c18] at e1
              by_cases c19 : tc T q = 19
              · rw [if_pos c19] at e1; exact ks_ties I K _ e1
              · rw [if_neg c19] at e1
                by_cases c20 : tc T q = 20
                · rw [if_pos c20] at e1; exact ks_grows I K C c20 _ e1
                · rw [if_neg c20] at e1
                  by_cases c21 : tc T q = 21
                  · rw [if_pos c21] at e1; exact ks_eases I K C c21 _ e1
                  · rw [if_neg c21] at e1
                    have := c_fail rd13 K 1
                    obtain ⟨h2, e2, _, _⟩ := this
                    have e2 : g_X4_fail_c5 h 13 1 = some (false, h2) := e2
                    rw [e2] at e1
                    cases e1
  obtain ⟨a1, q1, K1⟩ := k
  exact (ks_take I K1 _ _ e).1.trans a1
end N11
