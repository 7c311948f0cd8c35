/-! words: which they are, as the class and as the reference tell them apart -/
def rvb (b : Nat) : List Nat → Nat
  | [] => 0
  | c :: r => rvb b r * b + c
theorem rvb_inj {b : Nat} (hb : 27 ≤ b) : ∀ l l' : List Nat, (∀ c ∈ l, 1 ≤ c ∧ c ≤ 26) → (∀ c ∈ l', 1 ≤ c ∧ c ≤ 26) → rvb b l = rvb b l' → l = l' := by
  intro l
  induction l with
  | nil =>
    intro l' _ h' e
    cases l' with
    | nil => rfl
    | cons c r =>
      exfalso
      have := h' c (by simp)
      simp only [rvb] at e
      have h0 : 0 ≤ rvb b r * b := Nat.zero_le _
      omega
  | cons c r ih =>
    intro l' h h' e
    have hc := h c (by simp)
    cases l' with
    | nil =>
      exfalso
      simp only [rvb] at e
      omega
    | cons c' r' =>
      have hc' := h' c' (by simp)
      simp only [rvb] at e
      have e1 : c = c' := by
        have x1 : (rvb b r * b + c) % b = c := by rw [Nat.mul_comm, Nat.mul_add_mod, Nat.mod_eq_of_lt (by omega)]
        have x2 : (rvb b r' * b + c') % b = c' := by rw [Nat.mul_comm, Nat.mul_add_mod, Nat.mod_eq_of_lt (by omega)]
        rw [← x1, ← x2, e]
      subst e1
      have e2 : rvb b r = rvb b r' := by
        have : rvb b r * b = rvb b r' * b := by omega
        exact Nat.eq_of_mul_eq_mul_right (by omega) this
      rw [ih r' (fun x hx => h x (by simp [hx])) (fun x hx => h' x (by simp [hx])) e2]
theorem rvb_lt {b : Nat} (hb : 27 ≤ b) : ∀ l : List Nat, (∀ c ∈ l, 1 ≤ c ∧ c ≤ 26) → rvb b l < b ^ l.length := by
  intro l
  induction l with
  | nil => intro _; simp [rvb]
  | cons c r ih =>
    intro h
    have hc := h c (by simp)
    have := ih (fun x hx => h x (by simp [hx]))
    simp only [rvb, List.length_cons, Nat.pow_succ]
    have h2 : (rvb b r + 1) * b ≤ b ^ r.length * b := Nat.mul_le_mul_right _ this
    rw [Nat.add_mul] at h2
    omega
theorem wfold {b : Nat} (l : List Nat) : l.foldl (fun (a : Int64) c => a * lN b + lN c) 0 = lN (rvb b l.reverse) := by
  rw [List.foldl_eq_foldr_reverse]
  generalize l.reverse = r
  induction r with
  | nil => rfl
  | cons c r ih => simp only [List.foldr_cons, rvb]; rw [ih, lN_mul, lN_add]
theorem w27_e (l : List Nat) : w27 l = lN (rvb 27 l.reverse) := wfold (b := 27) l
theorem w32_e (l : List Nat) : w32 l = lN (rvb 32 l.reverse) := wfold (b := 32) l
theorem rvb_63 {b : Nat} {l : List Nat} (hb : 27 ≤ b) (h32 : b ≤ 32) (h : l.length ≤ 8) (hc : ∀ c ∈ l, 1 ≤ c ∧ c ≤ 26) : rvb b l.reverse < 2 ^ 63 := by
  have h1 := rvb_lt hb l.reverse (fun c hx => hc c (by simpa using hx))
  rw [List.length_reverse] at h1
  have h2 : b ^ l.length ≤ 32 ^ l.length := Nat.pow_le_pow_left h32 _
  have h3 : 32 ^ l.length ≤ 32 ^ 8 := Nat.pow_le_pow_right (by decide) h
  have h4 : 32 ^ 8 < 2 ^ 63 := by decide
  omega
theorem w_inj {b : Nat} {l l' : List Nat} (hb : 27 ≤ b) (h32 : b ≤ 32) (h : l.length ≤ 8) (h' : l'.length ≤ 8) (hc : ∀ c ∈ l, 1 ≤ c ∧ c ≤ 26) (hc' : ∀ c ∈ l', 1 ≤ c ∧ c ≤ 26) : (lN (rvb b l.reverse) = lN (rvb b l'.reverse)) = (l = l') := by
  apply propext
  rw [pk_lEQ (rvb_63 hb h32 h hc) (rvb_63 hb h32 h' hc')]
  constructor
  · intro e
    have := rvb_inj hb _ _ (fun c hx => hc c (by simpa using hx)) (fun c hx => hc' c (by simpa using hx)) e
    exact List.reverse_inj.mp this
  · intro e; rw [e]
theorem w27_inj {l l' : List Nat} (h : WI l) (h' : WI l') : (w27 l = w27 l') = (l = l') := by
  rw [w27_e, w27_e]; exact w_inj (by decide) (by decide) h.2.1 h'.2.1 h.2.2 h'.2.2
theorem w32_inj {l l' : List Nat} (h : WI l) (h' : WI l') : (w32 l = w32 l') = (l = l') := by
  rw [w32_e, w32_e]; exact w_inj (by decide) (by decide) h.2.1 h'.2.1 h.2.2 h'.2.2
theorem tcl_iff {l : List Nat} : ∀ ws k i, ws.Nodup → 2 < k → i < ws.length → (tcl l ws k = k + i ↔ l = ws.getD i []) := by
  intro ws
  induction ws with
  | nil => intro k i _ _ hi; simp at hi
  | cons w ws ih =>
    intro k i hn hk hi
    have hn1 := (List.nodup_cons.mp hn).1
    have hn2 := (List.nodup_cons.mp hn).2
    rw [tcl]
    have big : ∀ ws k, 2 < k → (tcl l ws k = 2 ∨ k ≤ tcl l ws k) := by
      intro ws
      induction ws with
      | nil => intro k _; left; rfl
      | cons w ws ih =>
        intro k hk
        rw [tcl]
        split
        · right; exact Nat.le_refl _
        · have := ih (k + 1) (by omega); omega
    cases i with
    | zero =>
      by_cases c : l = w
      · rw [if_pos c]; simp [c]
      · rw [if_neg c]
        constructor
        · intro z; exfalso; have := big ws (k + 1) (by omega); omega
        · intro z; exact absurd (by simpa using z) c
    | succ i =>
      simp only [List.length_cons] at hi
      have hih := ih (k + 1) i hn2 (by omega) (by omega)
      by_cases c : l = w
      · rw [if_pos c]
        constructor
        · intro z; exfalso; omega
        · intro z
          exfalso
          apply hn1
          rw [← c, z]
          simp
          rw [List.getElem?_eq_getElem (by omega)]
          simp
      · rw [if_neg c, show k + (i + 1) = k + 1 + i by omega, hih]; simp
theorem zwds_nd : zwds.Nodup := by decide
theorem zwds_len : zwds.length = 30 := by decide
theorem tcl_lt {l : List Nat} : ∀ ws k, tcl l ws k = 2 ∨ tcl l ws k < k + ws.length := by
  intro ws
  induction ws with
  | nil => intro k; left; rfl
  | cons w ws ih =>
    intro k
    rw [tcl]
    split
    · right; simp
    · rcases ih (k + 1) with e | e
      · exact Or.inl e
      · right; simp only [List.length_cons]; omega
section K6
variable {T : zTp} {q p : Nat} {h h' : zH} {A : Nat → Nat → Prop}
/-- a word it is -/
abbrev isWd (T : zTp) (q : Nat) : Prop := tc T q = 2 ∨ 12 ≤ tc T q
theorem wd_prop (I : TI T) (hq : q ≤ T.1) (hw : isWd T q) : q < T.1 ∧ isL (T.2 q) = true ∧ te T q - q ≤ 8 ∧ tc T q = tcl (tcs T q (te T q - q)) zwds 12 ∧ WI (tl T q) := by
  have hte := te_prop (T := T) hq
  unfold isWd at hw
  by_cases c : T.1 ≤ q
  · exfalso; unfold tc at hw; rw [if_pos c] at hw; omega
  · cases hl : isL (T.2 q)
    · exfalso
      unfold tc at hw
      rw [if_neg c, hl] at hw
      cases hn : isN (T.2 q)
      · rw [hn] at hw
        simp only [Bool.false_eq_true, if_false] at hw
        have hc := I.c (k := q) (by omega)
        exact (zmsg (T.2 q) (by omega)).2.1 hw
      · rw [hn] at hw
        simp only [Bool.false_eq_true, if_false, if_true] at hw
        split at hw <;> omega
    · have etc : tc T q = if te T q - q ≤ 8 then tcl (tcs T q (te T q - q)) zwds 12 else 1 := by unfold tc; rw [if_neg c, hl]; rfl
      have h8 : te T q - q ≤ 8 := by
        rw [etc] at hw
        split at hw
        · assumption
        · omega
      rw [if_pos h8] at etc
      refine ⟨by omega, rfl, h8, etc, ?_, ?_, ?_⟩
      · unfold tl; simp [tcs_len]; have := hte.2.2 (by omega); omega
      · unfold tl; simp [tcs_len]; omega
      · intro x hx
        unfold tl tcs at hx
        simp only [List.map_map, List.mem_map, List.mem_range] at hx
        obtain ⟨j, hj, rfl⟩ := hx
        have ete : te T q = zr (fun k => isL (T.2 k)) T.1 q := by unfold te; rw [if_neg c, hl]; rfl
        have hz := (zr_prop (f := fun k => isL (T.2 k)) (N := T.1) (T.1 - q) q rfl hq).2.2.1 (q + j) (by omega) (by rw [← ete]; omega)
        unfold isL at hz
        simp at hz
        simp only [Function.comp]
        omega
theorem tl_iff {l : List Nat} (hq : q ≤ T.1) (I : TI T) (hw : isWd T q) (hl : ∀ c ∈ l, 97 ≤ c) : (tl T q = l.map (fun c => c - 96)) ↔ tcs T q (te T q - q) = l := by
  obtain ⟨a, b, c, d, e⟩ := wd_prop I hq hw
  constructor
  · intro z
    have inj : ∀ l1 l2 : List Nat, (∀ c ∈ l1, 97 ≤ c) → (∀ c ∈ l2, 97 ≤ c) → l1.map (fun c => c - 96) = l2.map (fun c => c - 96) → l1 = l2 := by
      intro l1
      induction l1 with
      | nil => intro l2 _ _ z; cases l2 with
        | nil => rfl
        | cons x y => simp at z
      | cons x y ih =>
        intro l2 h1 h2 z
        cases l2 with
        | nil => simp at z
        | cons x' y' =>
          simp only [List.map_cons, List.cons.injEq] at z
          have := h1 x (by simp)
          have := h2 x' (by simp)
          rw [ih y' (fun c hc => h1 c (by simp [hc])) (fun c hc => h2 c (by simp [hc])) z.2, show x = x' by omega]
    refine inj _ _ ?_ hl z
    intro x hx
    unfold tcs at hx
    simp only [List.mem_map, List.mem_range] at hx
    obtain ⟨j, hj, rfl⟩ := hx
    have := e.2.2 (T.2 (q + j) - 96) (by unfold tl tcs; simp only [List.map_map, List.mem_map, List.mem_range]; exact ⟨j, hj, rfl⟩)
    omega
  · intro z; unfold tl; rw [z]
theorem zwds_c : ∀ w ∈ zwds, (∀ c ∈ w, 97 ≤ c) ∧ WI (w.map (fun c => c - 96)) := by
  intro w hw
  have : ∀ w ∈ zwds, (∀ c ∈ w, 97 ≤ c) ∧ (1 ≤ (w.map (fun c => c - 96)).length ∧ (w.map (fun c => c - 96)).length ≤ 8 ∧ ∀ c ∈ (w.map (fun c => c - 96)), 1 ≤ c ∧ c ≤ 26) := by decide
  exact this w hw

theorem wk {i : Nat} (I : TI T) (hq : q ≤ T.1) (hw : isWd T q) (hi : i < 30) (w : Int64) (e : w = w27 ((zwds.getD i []).map (fun c => c - 96))) : (lg_cmp (w27 (tl T q)) w = 0) = (tc T q = 12 + i) := by
  obtain ⟨a, b, c, d, f⟩ := wd_prop I hq hw
  have hm : zwds.getD i [] ∈ zwds := by
    rw [List.getD_eq_getElem?_getD, List.getElem?_eq_getElem (by rw [zwds_len]; exact hi)]
    simp
  obtain ⟨g1, g2⟩ := zwds_c _ hm
  apply propext
  rw [lg_cmp_eq, e, w27_inj f g2, tl_iff hq I hw g1, d]
  exact (tcl_iff zwds 12 i zwds_nd (by decide) (by rw [zwds_len]; exact hi)).symm
theorem wl_0 : (232608281 : Int64) = w27 ((zwds.getD 0 []).map (fun c => c - 96)) := by decide +kernel
theorem wl_1 : (923 : Int64) = w27 ((zwds.getD 1 []).map (fun c => c - 96)) := by decide +kernel
theorem wl_2 : (109240 : Int64) = w27 ((zwds.getD 2 []).map (fun c => c - 96)) := by decide +kernel
theorem wl_3 : (110424740 : Int64) = w27 ((zwds.getD 3 []).map (fun c => c - 96)) := by decide +kernel
theorem wl_4 : (161370 : Int64) = w27 ((zwds.getD 4 []).map (fun c => c - 96)) := by decide +kernel
theorem wl_5 : (1503 : Int64) = w27 ((zwds.getD 5 []).map (fun c => c - 96)) := by decide +kernel
theorem wl_6 : (82408 : Int64) = w27 ((zwds.getD 6 []).map (fun c => c - 96)) := by decide +kernel
theorem wl_7 : (400375 : Int64) = w27 ((zwds.getD 7 []).map (fun c => c - 96)) := by decide +kernel
theorem wl_8 : (4085956 : Int64) = w27 ((zwds.getD 8 []).map (fun c => c - 96)) := by decide +kernel
theorem wl_9 : (2690893 : Int64) = w27 ((zwds.getD 9 []).map (fun c => c - 96)) := by decide +kernel
theorem wl_10 : (14631 : Int64) = w27 ((zwds.getD 10 []).map (fun c => c - 96)) := by decide +kernel
theorem wl_11 : (144524 : Int64) = w27 ((zwds.getD 11 []).map (fun c => c - 96)) := by decide +kernel
theorem wl_12 : (60311 : Int64) = w27 ((zwds.getD 12 []).map (fun c => c - 96)) := by decide +kernel
theorem wl_13 : (3164 : Int64) = w27 ((zwds.getD 13 []).map (fun c => c - 96)) := by decide +kernel
theorem wl_14 : (2968 : Int64) = w27 ((zwds.getD 14 []).map (fun c => c - 96)) := by decide +kernel
theorem wl_15 : (388609 : Int64) = w27 ((zwds.getD 15 []).map (fun c => c - 96)) := by decide +kernel
theorem wl_16 : (6409157 : Int64) = w27 ((zwds.getD 16 []).map (fun c => c - 96)) := by decide +kernel
theorem wl_17 : (11263 : Int64) = w27 ((zwds.getD 17 []).map (fun c => c - 96)) := by decide +kernel
theorem wl_18 : (13596964 : Int64) = w27 ((zwds.getD 18 []).map (fun c => c - 96)) := by decide +kernel
theorem wl_19 : (8740238 : Int64) = w27 ((zwds.getD 19 []).map (fun c => c - 96)) := by decide +kernel
theorem wl_20 : (10124021 : Int64) = w27 ((zwds.getD 20 []).map (fun c => c - 96)) := by decide +kernel
theorem wl_21 : (6257 : Int64) = w27 ((zwds.getD 21 []).map (fun c => c - 96)) := by decide +kernel
theorem wl_22 : (117812495 : Int64) = w27 ((zwds.getD 22 []).map (fun c => c - 96)) := by decide +kernel
theorem wl_23 : (10631 : Int64) = w27 ((zwds.getD 23 []).map (fun c => c - 96)) := by decide +kernel
theorem wl_24 : (1111 : Int64) = w27 ((zwds.getD 24 []).map (fun c => c - 96)) := by decide +kernel
theorem wl_25 : (423 : Int64) = w27 ((zwds.getD 25 []).map (fun c => c - 96)) := by decide +kernel
theorem wl_26 : (5878 : Int64) = w27 ((zwds.getD 26 []).map (fun c => c - 96)) := by decide +kernel
theorem wl_27 : (3946728583 : Int64) = w27 ((zwds.getD 27 []).map (fun c => c - 96)) := by decide +kernel
theorem wl_28 : (13385674 : Int64) = w27 ((zwds.getD 28 []).map (fun c => c - 96)) := by decide +kernel
theorem wl_29 : (6132983 : Int64) = w27 ((zwds.getD 29 []).map (fun c => c - 96)) := by decide +kernel
theorem mtk_1 {c : Nat} : (mtk c = 1) = (c = 2 ∨ 12 ≤ c) := by
  apply propext
  constructor
  · intro z
    unfold mtk at z
    repeat' split at z
    all_goals omega
  · exact mtk_w
theorem MT.t1 (K : MT T q h) : (h.1 139 6 = 1) = isWd T q := by
  rw [K.2.2.2.2.1]
  have : mtk (tc T q) < 5 := by unfold mtk; repeat' split
                                all_goals omega
  rw [zeq_1 (by omega), mtk_1]
theorem e_isWord (I : TI T) (K : MT T q h) {i : Nat} (hi : i < 30) (w : Int64) (e : w = w27 ((zwds.getD i []).map (fun c => c - 96))) : g_X12_isWord h 139 w = some (decide (tc T q = 12 + i)) := by
  unfold g_X12_isWord
  simp only [K.t1]
  by_cases c : isWd T q
  · rw [if_pos c, K.2.2.2.2.2.1 c]
    simp only [wk I K.2.1 c hi w e]
    by_cases d : tc T q = 12 + i <;> simp [d]
  · rw [if_neg c]
    have : ¬ tc T q = 12 + i := fun z => c (Or.inr (by omega))
    simp [this]
def tnm (T : zTp) (q : Nat) : Bool := decide (tc T q = 2) || decide (38 ≤ tc T q)
theorem tc_lt (T : zTp) (q : Nat) : tc T q < 42 := by
  unfold tc
  split
  · omega
  · split
    · split
      · rcases tcl_lt (l := tcs T q (te T q - q)) zwds 12 with e | e
        · rw [e]; omega
        · rw [zwds_len] at e; exact e
      · omega
    · split
      · split <;> omega
      · unfold tsg; repeat' split
        all_goals omega
theorem e_isName (K : CT T q h) : g_X8_isName h 1 = some (tnm T q) := by
  have := tc_lt T q
  have a : (nI (tc T q) < (38 : Int32)) = (tc T q < 38) := zlt_k (n := 38) (by omega) (by decide)
  unfold g_X8_isName tnm
  rw [K.2.2.2.2.1]
  simp only [zeq_2 (show tc T q < 2147483648 by omega), a]
  by_cases c : tc T q = 2
  · simp [c]
  · by_cases d : tc T q < 38
    · have : ¬ 38 ≤ tc T q := by omega
      simp [c, d, this]
    · have : 38 ≤ tc T q := by omega
      simp [c, d, this]
theorem e_isKept (I : TI T) (K : MT T q h) : g_X12_isKept h 139 = some (!tnm T q) := by
  unfold g_X12_isKept tnm
  simp only [K.t1]
  by_cases c : isWd T q
  · have hlt := tc_lt T q
    rw [if_pos c, K.2.2.2.2.2.1 c]
    simp only [wk I K.2.1 c (i := 0) (by decide) _ wl_0, wk I K.2.1 c (i := 1) (by decide) _ wl_1, wk I K.2.1 c (i := 2) (by decide) _ wl_2, wk I K.2.1 c (i := 3) (by decide) _ wl_3, wk I K.2.1 c (i := 4) (by decide) _ wl_4, wk I K.2.1 c (i := 5) (by decide) _ wl_5, wk I K.2.1 c (i := 6) (by decide) _ wl_6, wk I K.2.1 c (i := 7) (by decide) _ wl_7, wk I K.2.1 c (i := 8) (by decide) _ wl_8, wk I K.2.1 c (i := 9) (by decide) _ wl_9, wk I K.2.1 c (i := 10) (by decide) _ wl_10, wk I K.2.1 c (i := 11) (by decide) _ wl_11, wk I K.2.1 c (i := 12) (by decide) _ wl_12, wk I K.2.1 c (i := 13) (by decide) _ wl_13, wk I K.2.1 c (i := 14) (by decide) _ wl_14, wk I K.2.1 c (i := 15) (by decide) _ wl_15, wk I K.2.1 c (i := 16) (by decide) _ wl_16, wk I K.2.1 c (i := 17) (by decide) _ wl_17, wk I K.2.1 c (i := 18) (by decide) _ wl_18, wk I K.2.1 c (i := 19) (by decide) _ wl_19, wk I K.2.1 c (i := 20) (by decide) _ wl_20, wk I K.2.1 c (i := 21) (by decide) _ wl_21, wk I K.2.1 c (i := 22) (by decide) _ wl_22, wk I K.2.1 c (i := 23) (by decide) _ wl_23, wk I K.2.1 c (i := 24) (by decide) _ wl_24, wk I K.2.1 c (i := 25) (by decide) _ wl_25]
    have cs : tc T q = 2 ∨ 38 ≤ tc T q ∨ tc T q = 12 ∨ tc T q = 13 ∨ tc T q = 14 ∨ tc T q = 15 ∨ tc T q = 16 ∨ tc T q = 17 ∨ tc T q = 18 ∨ tc T q = 19 ∨ tc T q = 20 ∨ tc T q = 21 ∨ tc T q = 22 ∨ tc T q = 23 ∨ tc T q = 24 ∨ tc T q = 25 ∨ tc T q = 26 ∨ tc T q = 27 ∨ tc T q = 28 ∨ tc T q = 29 ∨ tc T q = 30 ∨ tc T q = 31 ∨ tc T q = 32 ∨ tc T q = 33 ∨ tc T q = 34 ∨ tc T q = 35 ∨ tc T q = 36 ∨ tc T q = 37 := by unfold isWd at c; omega
    rcases cs with e | e | e | e | e | e | e | e | e | e | e | e | e | e | e | e | e | e | e | e | e | e | e | e | e | e | e | e
    · simp [e]
    · have z : ∀ i, i < 26 → ¬ tc T q = 12 + i := fun i hi => by omega
      simp [z 0 (by decide), z 1 (by decide), z 2 (by decide), z 3 (by decide), z 4 (by decide), z 5 (by decide), z 6 (by decide), z 7 (by decide), z 8 (by decide), z 9 (by decide), z 10 (by decide), z 11 (by decide), z 12 (by decide), z 13 (by decide), z 14 (by decide), z 15 (by decide), z 16 (by decide), z 17 (by decide), z 18 (by decide), z 19 (by decide), z 20 (by decide), z 21 (by decide), z 22 (by decide), z 23 (by decide), z 24 (by decide), z 25 (by decide), e]
    all_goals simp [e]
  · rw [if_neg c]
    have c1 : ¬ tc T q = 2 := fun z => c (Or.inl z)
    have c2 : ¬ 38 ≤ tc T q := fun z => c (Or.inr (by omega))
    simp [c1, c2]
def tfc (T : zTp) (q : Nat) : Nat := if 38 ≤ tc T q then tc T q - 37 else 0
theorem e_fact (I : TI T) (K : MT T q h) : g_X12_fact h 139 = some (nI (tfc T q)) := by
  unfold g_X12_fact tfc
  simp only [K.t1]
  by_cases c : isWd T q
  · have hlt := tc_lt T q
    rw [if_pos c, K.2.2.2.2.2.1 c]
    simp only [wk I K.2.1 c (i := 26) (by decide) _ wl_26, wk I K.2.1 c (i := 27) (by decide) _ wl_27, wk I K.2.1 c (i := 28) (by decide) _ wl_28, wk I K.2.1 c (i := 29) (by decide) _ wl_29]
    by_cases d : 38 ≤ tc T q
    · have cs : tc T q = 38 ∨ tc T q = 39 ∨ tc T q = 40 ∨ tc T q = 41 := by omega
      rcases cs with e | e | e | e <;> simp [e] <;> rfl
    · rw [if_neg (by omega), if_neg (by omega), if_neg (by omega), if_neg (by omega), if_neg d]; rfl
  · rw [if_neg c]
    have c2 : ¬ 38 ≤ tc T q := fun z => c (Or.inr (by omega))
    rw [if_neg c2]; rfl
theorem zsgn : ∀ c, c < 127 → 4 ≤ tsg c → ∀ d, d < 127 → (tsg d = tsg c) = (d = c) := by decide +kernel
theorem sg_prop (I : TI T) (hq : q ≤ T.1) (hs : mtk (tc T q) = 3) : q < T.1 ∧ tc T q = tsg (T.2 q) := by
  have h3 : 4 ≤ tc T q ∧ tc T q < 12 := by
    unfold mtk at hs
    repeat' split at hs
    all_goals omega
  by_cases c : T.1 ≤ q
  · exfalso; unfold tc at h3; rw [if_pos c] at h3; omega
  · refine ⟨by omega, ?_⟩
    unfold tc at h3 ⊢
    rw [if_neg c] at h3 ⊢
    cases hl : isL (T.2 q)
    · rw [hl] at h3
      cases hn : isN (T.2 q)
      · rfl
      · exfalso
        rw [hn] at h3
        simp only [Bool.false_eq_true, if_false, if_true] at h3
        split at h3 <;> omega
    · exfalso
      rw [hl] at h3
      simp only [if_true] at h3
      split at h3
      · have := tcl_ge (tcs T q (te T q - q)) zwds 12 (by decide); omega
      · omega
theorem e_isSign (I : TI T) (K : MT T q h) {c : Nat} (hc : c < 127) (h4 : 4 ≤ tsg c) : g_X12_isSign h 139 (nI c) = some (decide (tc T q = tsg c)) := by
  have l := I.1
  have hq := K.2.1
  have h12 : tsg c < 12 := by unfold tsg; repeat' split
                              all_goals omega
  unfold g_X12_isSign
  rw [K.2.2.2.2.1, K.2.2.1]
  have m5 : mtk (tc T q) < 5 := by unfold mtk; repeat' split
                                   all_goals omega
  simp only [zeq_3 (show mtk (tc T q) < 2147483648 by omega)]
  by_cases d : mtk (tc T q) = 3
  · obtain ⟨s1, s2⟩ := sg_prop I hq d
    have hc2 := I.c s1
    rw [if_pos d, zin_t (by omega) (by omega), zgu_t, zx_nI (by omega)]
    simp only [zr_0_0, zr_0_1, zr_0_2, zr_0_3, zr_0_4, zr_0_5, zr_0_6, zr_0_7, zr_0_8, zr_1_0, zr_3_0, zr_3_1, zr_3_2, zr_3_3, zr_3_4, zr_3_5, zr_3_6, zr_10_0, zr_10_1, zr_13_0, zr_13_1, zr_13_4, zr_14_0, zr_14_1, zr_14_2, zr_14_3, zr_14_4, zr_14_5, zr_14_6, zr_21_0, zr_21_1, zr_24_0, zr_24_1, zr_24_2, zr_26_0, zr_26_1, zr_26_4, zr_27_0, zr_37_0, zr_37_1, zr_38_0, zr_44_0, zr_44_1, zr_44_2, zr_44_3, zr_45_0, zr_45_1, zr_52_0, zr_52_1, zr_59_0, zr_59_1, zr_66_0, zr_66_1, zr_73_0, zr_74_0, zr_74_1, zr_74_2, zr_74_3, zr_74_4, zr_74_5, zr_74_6, zr_74_7, zr_74_8, zr_74_9, zr_74_10, zr_74_11, zr_74_12, zr_74_13, zr_74_14, zr_74_15, zr_139_2, zr_139_10, zr_139_11, zr_139_12, zr_139_13, zr_139_14, zr_139_15, zr_139_16, zr_139_17, zr_139_18, zr_139_19, zr_139_20, zr_139_23, zr_139_24, zr_139_25, zr_139_26, zr_139_27, zr_139_28, zr_139_29, zr_139_30, zr_139_31, zr_139_32, zr_139_33, zr_139_34, zr_139_37, zr_139_38, zr_139_39, zr_139_40, zr_139_41, zr_139_42, zr_139_43, zr_139_44, zr_139_45, zr_139_46, zr_139_47, zr_139_48, zr_139_50]
    rw [K.1.2 q s1]
    simp only [znI_eq (show T.2 q < 2147483648 by omega) (show c < 2147483648 by omega)]
    rw [s2]
    simp only [zsgn c hc h4 (T.2 q) (by omega)]
    by_cases e : T.2 q = c <;> simp [e]
  · rw [if_neg d]
    have : ¬ tc T q = tsg c := by
      intro z
      apply d
      rw [z]
      unfold mtk
      rw [if_neg (by omega), if_neg (by omega), if_neg (by omega), if_neg (by omega), if_pos h12]
    simp [this]
theorem e_packed7 (I : TI T) (K : TC T h) {e : Nat} (he : e ≤ T.1) (e5 : h.1 1 5 = nI e) : ∀ k p a n, k = e - p → p ≤ e → k < n → (∀ j, p ≤ j → j < e → 97 ≤ T.2 j) → g_X8_packedWord_7 h 1 n a (nI p) = some (((tcs T p (e - p)).map (fun c => c - 96)).foldl (fun a c => a * 32 + lN c) a) := by
  have l := I.1
  intro k
  induction k with
  | zero =>
    intro p a n hk hp hn hc
    obtain ⟨n, rfl⟩ : ∃ m, n = m + 1 := ⟨n - 1, by omega⟩
    rw [g_X8_packedWord_7, e5, if_pos (by rw [znI_le (by omega) (by omega)]; omega), show e - p = 0 by omega]; rfl
  | succ k ih =>
    intro p a n hk hp hn hc
    obtain ⟨n, rfl⟩ : ∃ m, n = m + 1 := ⟨n - 1, by omega⟩
    have h97 := hc p (Nat.le_refl _) (by omega)
    have h126 := I.c (k := p) (by omega)
    have ec : (nI (T.2 p) - 97 + 1).toInt64 = lN (T.2 p - 96) := by
      have : nI (T.2 p) - 97 = nI (T.2 p - 97) := nI_sb (b := 97) h97
      rw [this, nI_1, nI_l (by omega), show T.2 p - 97 + 1 = T.2 p - 96 by omega]
    rw [g_X8_packedWord_7, e5, if_neg (by rw [znI_le (by omega) (by omega)]; omega), zin_t (by omega) (by omega), zgu_t, zx_nI (by omega)]
    simp only [zr_0_0, zr_0_1, zr_0_2, zr_0_3, zr_0_4, zr_0_5, zr_0_6, zr_0_7, zr_0_8, zr_1_0, zr_3_0, zr_3_1, zr_3_2, zr_3_3, zr_3_4, zr_3_5, zr_3_6, zr_10_0, zr_10_1, zr_13_0, zr_13_1, zr_13_4, zr_14_0, zr_14_1, zr_14_2, zr_14_3, zr_14_4, zr_14_5, zr_14_6, zr_21_0, zr_21_1, zr_24_0, zr_24_1, zr_24_2, zr_26_0, zr_26_1, zr_26_4, zr_27_0, zr_37_0, zr_37_1, zr_38_0, zr_44_0, zr_44_1, zr_44_2, zr_44_3, zr_45_0, zr_45_1, zr_52_0, zr_52_1, zr_59_0, zr_59_1, zr_66_0, zr_66_1, zr_73_0, zr_74_0, zr_74_1, zr_74_2, zr_74_3, zr_74_4, zr_74_5, zr_74_6, zr_74_7, zr_74_8, zr_74_9, zr_74_10, zr_74_11, zr_74_12, zr_74_13, zr_74_14, zr_74_15, zr_139_2, zr_139_10, zr_139_11, zr_139_12, zr_139_13, zr_139_14, zr_139_15, zr_139_16, zr_139_17, zr_139_18, zr_139_19, zr_139_20, zr_139_23, zr_139_24, zr_139_25, zr_139_26, zr_139_27, zr_139_28, zr_139_29, zr_139_30, zr_139_31, zr_139_32, zr_139_33, zr_139_34, zr_139_37, zr_139_38, zr_139_39, zr_139_40, zr_139_41, zr_139_42, zr_139_43, zr_139_44, zr_139_45, zr_139_46, zr_139_47, zr_139_48, zr_139_50]
    rw [K.2 p (by omega), ec, zlet_e, nI_1, ih (p + 1) _ n (by omega) (by omega) (by omega) (fun j a b => hc j (by omega) b)]
    have : tcs T p (e - p) = T.2 p :: tcs T (p + 1) (e - (p + 1)) := by
      rw [show e - p = (e - (p + 1)) + 1 by omega]
      unfold tcs
      rw [List.range_succ_eq_map, List.map_cons, List.map_map]
      simp only [Nat.add_zero, List.cons.injEq, true_and]
      apply List.map_congr_left
      intro j _
      simp only [Function.comp]
      rw [show p + j.succ = p + 1 + j by omega]
    rw [this]; rfl
theorem e_packed (I : TI T) (K : CT T q h) (hw : isWd T q) : g_X8_packedWord h 1 = some (w32 (tl T q)) := by
  have l := I.1
  have hte := te_prop (T := T) K.2.1
  obtain ⟨a, b, c, d, f⟩ := wd_prop I K.2.1 hw
  unfold g_X8_packedWord
  rw [K.2.2.1, e_packed7 I K.1 hte.2.1 K.2.2.2.1 (te T q - q) q 0 zfu rfl hte.1 (by show _ < 4000; omega) (by
    intro j h1 h2
    have ete : te T q = zr (fun k => isL (T.2 k)) T.1 q := by unfold te; rw [if_neg (by omega), b]; rfl
    have hz := (zr_prop (f := fun k => isL (T.2 k)) (N := T.1) (T.1 - q) q rfl K.2.1).2.2.1 j h1 (by rw [← ete]; exact h2)
    unfold isL at hz
    simp at hz
    exact hz.1)]
  rfl
theorem tnm_wd (hw : tnm T q = true) : isWd T q := by
  unfold tnm at hw
  simp at hw
  unfold isWd
  omega
end K6
