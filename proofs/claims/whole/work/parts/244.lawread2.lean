/-! laws: the class reads one, token by token -/
def isW : List Fr → Bool
  | [] => true
  | f :: _ => (fc f).isNone
def HP (P : Nat → Prop) (l : List Nat) : Prop := ∀ y t, l = y :: t → P y
section L7
variable {h h' : zH} {A : Nat → Nat → Prop} {T : zTp} {q b : Nat} {wl : List Nat} {cc : List Int32} {f : Fr} {r fs : List Fr}
theorem HP.nil {P : Nat → Prop} : HP P [] := fun y t z => by cases z
theorem HP.app {P : Nat → Prop} {a c : List Nat} (h1 : HP P a) (h2 : HP P c) : HP P (a ++ c) := by
  intro y t z
  cases a with
  | nil => exact h2 y t z
  | cons x a => cases z; exact h1 _ _ rfl
theorem HP.on {P : Nat → Prop} {o : Option (Nat × Fn)} (hh : ∀ op g, o = some (op, g) → P op) : HP P (on o) := by
  intro y t z
  cases o with
  | none => cases z
  | some w => obtain ⟨op, g⟩ := w; cases z; exact hh _ _ rfl
theorem HP.mk {P : Nat → Prop} (G : okF (f :: r)) (h1 : ¬ fm f = 1) (h4 : P 4) : HP P (mkl f ++ wst r) := by
  have := G.1
  unfold mkl
  rw [if_neg h1]
  by_cases c : fm f = 2
  · rw [if_pos c]; intro y t z; cases z; exact h4
  · rw [if_neg c]
    by_cases cr : r = []
    · subst cr; exact HP.nil
    · rw [if_neg cr] at this; omega
theorem po_op {p : Option Fn} : ∀ op g, po p = some (op, g) → op = 10 := by
  intro op g z
  cases p with
  | none => cases z
  | some u => cases z; rfl
/-- all that a level holds, worked out step by step -/
theorem rel_chain (H : PO cc (ost (f :: r))) {v : Fn} (hv : fc f = some v) (O : oko (f :: r)) (hl : (f :: r).length ≤ 6) : PO (cc ++ (on (po (fp f))).map nI) (fun e => pr (fp f) v e :: (ov (fS f) e ++ (ov (fA f) e ++ (ov (fK f) e ++ ost r e)))) ∧ PO (cc ++ (on (po (fp f)) ++ on (fS f)).map nI) (fun e => co (fS f) (pr (fp f) v) e :: (ov (fA f) e ++ (ov (fK f) e ++ ost r e))) ∧ PO (cc ++ (on (po (fp f)) ++ (on (fS f) ++ (on (fA f) ++ on (fK f)))).map nI) (fun e => fv f v e :: ost r e) := by
  simp only [List.length_cons] at hl
  have lr : ∀ e, (ost r e).length ≤ 25 := fun e => by have := ost_len e r; omega
  have lK := fun e => ov_len (fK f) e
  have lA := fun e => ov_len (fA f) e
  have lS := fun e => ov_len (fS f) e
  have H0 : PO cc (fun e => v e :: (ov (po (fp f)) e ++ (ov (fS f) e ++ (ov (fA f) e ++ (ov (fK f) e ++ ost r e))))) := by
    have : (ost (f :: r)) = (fun e => v e :: (ov (po (fp f)) e ++ (ov (fS f) e ++ (ov (fA f) e ++ (ov (fK f) e ++ ost r e))))) := by
      funext e
      simp only [ost, ofr, hv, pv, List.append_assoc, List.cons_append, List.nil_append]
    rw [this] at H; exact H
  have P1 := H0.rl (po (fp f)) (fun op g z => by rw [po_op op g z]; unfold isOp; omega) (fun e => by
    have a := lr e; have b := lK e; have c := lA e; have d := lS e
    simp only [List.length_append]; omega)
  have P2 := PO.rl (x := co (po (fp f)) v) (fS f) P1 (fun op g z => by have := O.2.2.1 op g z; unfold isOp; omega) (fun e => by
    have a := lr e; have b := lK e; have c := lA e
    simp only [List.length_append]; omega)
  have P3 := PO.rl (x := co (fS f) (co (po (fp f)) v)) (fA f) P2 (fun op g z => by have := O.2.1 op g z; unfold isOp; omega) (fun e => by
    have a := lr e; have b := lK e
    simp only [List.length_append]; omega)
  have P4 := PO.rl (x := co (fA f) (co (fS f) (co (po (fp f)) v))) (fK f) P3 (fun op g z => by have := O.1 op g z; unfold isOp; omega) (fun e => by
    have a := lr e; omega)
  rw [← pr_co] at P1 P2 P4
  refine ⟨P1, ?_, ?_⟩
  · rw [List.map_append, ← List.append_assoc]; exact P2
  · rw [List.map_append, List.map_append, List.map_append]
    simp only [← List.append_assoc]
    exact P4
theorem prt_facts (v : Fn) : ∀ (fs : List Fr), okF fs → wnt fs → oko fs → ∃ k, wst fs = List.replicate k 35 ++ wst (prt v fs) ∧ HP (fun y => y < 100 ∧ ¬ y = 35) (wst (prt v fs)) ∧ opn (prt v fs) = opn fs ∧ fs.length = (prt v fs).length + k ∧ isW (prt v fs) = false ∧ (fs.length ≤ 6 → ∀ cc, PO cc (fun e => v e :: ost fs e) → PO (cc ++ List.replicate k 35) (ost (prt v fs))) := by
  intro fs
  induction fs generalizing v with
  | nil => intro H; exact H.elim
  | cons f r ih =>
    intro G W O
    have W : fc f = none := W
    by_cases c : fm f = 1
    · have e1 : prt v (f :: r) = prt (fun e => nt (v e)) r := by rw [prt, if_pos c]
      have hr : ¬ r = [] := by
        intro z
        have := G.1
        rw [if_pos z] at this; omega
      have g1 := G.1
      rw [if_neg hr] at g1
      obtain ⟨n1, n2, n3, n4⟩ := G.2 c
      obtain ⟨k, a1, a2, a3, a4, a5, a6⟩ := ih (fun e => nt (v e)) g1.2.1 g1.2.2 O.2.2.2
      refine ⟨k + 1, ?_, by rw [e1]; exact a2, ?_, ?_, by rw [e1]; exact a5, fun hl cc H => ?_⟩
      · rw [e1, wst, n1, n2, n3, n4, a1, List.replicate_succ]
        unfold mkl
        rw [if_pos c]; rfl
      · rw [e1, a3, opn, if_neg (by omega), Nat.zero_add]
      · rw [e1, List.length_cons, a4]; omega
      · simp only [List.length_cons] at hl
        have e2 : (fun e => v e :: ost (f :: r) e) = (fun e => v e :: ost r e) := by
          funext e
          simp only [ost, ofr, W, n1, n2, n3, n4, pv, ov, po, List.nil_append]
        rw [e2] at H
        have H2 := H.no (fun e => by have := ost_len e r; omega)
        have := a6 (by omega) _ H2
        rw [e1, List.replicate_succ]
        simpa using this
    · have e1 : prt v (f :: r) = (fm f, fK f, fA f, fS f, fp f, some v) :: r := by rw [prt, if_neg c]
      refine ⟨0, ?_, ?_, ?_, ?_, ?_, fun hl cc H => ?_⟩
      · rw [e1]; rfl
      · rw [e1]
        refine HP.app (HP.on (fun op g z => by rw [po_op op g z]; omega)) (HP.app (HP.on (fun op g z => by have := O.2.2.1 op g z; omega)) (HP.app (HP.on (fun op g z => by have := O.2.1 op g z; omega)) (HP.app (HP.on (fun op g z => by have := O.1 op g z; omega)) ?_)))
        exact HP.mk (f := f) G c (by omega)
      · rw [e1]; rfl
      · rw [e1]; simp
      · rw [e1]; rfl
      · rw [e1]
        have e2 : (fun e => v e :: ost (f :: r) e) = ost ((fm f, fK f, fA f, fS f, fp f, some v) :: r) := by
          funext e
          simp only [ost, ofr, W, pv, List.nil_append, List.cons_append, List.append_assoc]
        rw [e2] at H
        simpa using H
def CLm (fs : List Fr) (cc : List Int32) (b : Nat) (h : zH) : Prop := gd fs ∧ CW (wst fs) cc b h ∧ h.1 24 4 = nI (opn fs) ∧ h.1 24 5 = nI (fs.length - 1) ∧ h.1 24 6 = zb (isW fs) ∧ PO cc (ost fs)
def CLw (T : zTp) (q : Nat) (fs : List Fr) (cc : List Int32) (b : Nat) (h : zH) : Prop := CT T q h ∧ CLm fs cc b h ∧ b + cc.length + (wst fs).length ≤ q
theorem CLm.same (H : CLm fs cc b h) (x : zsm A h h') (hA : ∀ a k, 21 ≤ a → a ≤ 25 → ¬ A a k) : CLm fs cc b h' := by
  obtain ⟨h1, h2, h3, h4, h5, h6⟩ := H
  exact ⟨h1, h2.same x (fun k => hA _ _ (by omega) (by omega)) (hA _ _ (by omega) (by omega)) (hA _ _ (by omega) (by omega)) (fun k => hA _ _ (by omega) (by omega)), by rw [(x _ _ (hA _ _ (by omega) (by omega))).1]; exact h3, by rw [(x _ _ (hA _ _ (by omega) (by omega))).1]; exact h4, by rw [(x _ _ (hA _ _ (by omega) (by omega))).1]; exact h5, h6⟩
def ALx (b : Nat) : Nat → Nat → Prop := fun a k => (ALr b) a k ∨ AT1 a k
theorem ALr1 {a k : Nat} (z : (A22 b) a k ∨ A25 a k) : (ALr b) a k := by unfold A22 A25 at z; unfold ALr; omega
theorem e_110 (I : TI T) {k22 : Int32 → zH → Option (Int32 × zH)} {i : Nat} (K : CT T q h) (hq : q < T.1) (H : CLm fs cc b h) (hb : b + cc.length + (wst fs).length ≤ q + 1) : ∃ h', g_X0_readLaw_110 24 k22 (nI i) 0 h = k22 (nI (i + 1)) h' ∧ CLw T (tx T q) fs cc b h' ∧ zsm (ALx b) h h' := by
  obtain ⟨h2, e2, K2, w2⟩ := e_look I K
  have := (tx_prop (T := T) K.2.1).2.2 hq
  refine ⟨h2, ?_, ⟨K2, H.same w2 (fun a k ha hb => by unfold AT1; omega), by omega⟩, w2.mono (fun a k z => Or.inr z)⟩
  unfold g_X0_readLaw_110
  rw [if_pos rfl, zr21.2.1, e2, zbind_s, nI_1]
theorem CT.lr (K : CT T q h) (x : zsm (ALr b) h h') : CT T q h' := CT.same (A := (ALr b)) K x (fun k => by unfold ALr; omega) (fun k => by unfold ALr; omega)
/-- a part has come: those that deny it wait no more -/
theorem e_endPart {v : Fn} (hl6 : fs.length ≤ 6) (G : okF fs) (W : wnt fs) (O : oko fs) (H : CW (wst fs) cc b h) (hb : b + cc.length + (wst fs).length ≤ 1000) (h4 : h.1 24 4 = nI (opn fs)) (h5 : h.1 24 5 = nI (fs.length - 1)) (P : PO cc (fun e => v e :: ost fs e)) : ∃ h' cc', g_X0_endPart h 24 = some h' ∧ CLm (prt v fs) cc' b h' ∧ cc'.length + (wst (prt v fs)).length = cc.length + (wst fs).length ∧ zsm (ALr b) h h' := by
  obtain ⟨k, a1, a2, a3, a4, a5, a6⟩ := prt_facts v fs G W O
  have w0 : zsm (fun a k => a = 24 ∧ k = 6) h (zpi h 24 6 0) := zsm.pi ⟨rfl, rfl⟩
  have H0 : CW (wst fs) cc b (zpi h 24 6 0) := H.same w0 (fun k => by omega) (by omega) (by omega) (fun k => by omega)
  rw [a1] at H0 hb
  have hlen : (List.replicate k 35 ++ wst (prt v fs)).length = k + (wst (prt v fs)).length := by simp
  rw [hlen] at hb
  have wl := wst_len fs
  rw [a1, hlen] at wl
  have p1 := prt_ok fs v G
  have hp1 : 1 ≤ (prt v fs).length := by
    cases hz : prt v fs with
    | nil => rw [hz] at p1; exact p1.1.elim
    | cons _ _ => simp
  obtain ⟨h2, e2, P2, d2, w2⟩ := e_endPart5 (b := b) k (wst (prt v fs)) cc ((prt v fs).length - 1) zfu (zpi h 24 6 0) H0 (by omega) (by omega) (by show _ < 4000; omega) (by rw [zpi_r, if_neg (by omega), h5]; congr 1; omega) (fun y l z => a2 y l z)
  refine ⟨h2, cc ++ List.replicate k 35, ?_, ⟨prt_gd G hl6 O, P2, ?_, d2, ?_, a6 hl6 cc P⟩, ?_, (w0.mono (fun a k z => by unfold ALr; omega)).tr (w2.mono (fun a k z => by unfold A22 A25 at z; unfold ALr; omega))⟩
  · unfold g_X0_endPart
    rw [zlet_e]; exact e2
  · rw [(w2 _ _ (by unfold A22 A25; omega)).1, zpi_r, if_neg (by omega), h4, a3]
  · rw [(w2 _ _ (by unfold A22 A25; omega)).1, zpi_r, if_pos ⟨rfl, rfl⟩, a5]; rfl
  · rw [a1]; simp; omega
theorem tc0 (hq : q ≤ T.1) (hc : ¬ tc T q = 0) : q < T.1 := by
  by_cases c : T.1 ≤ q
  · exfalso; apply hc; unfold tc; rw [if_pos c]
  · omega
theorem tn_lt (I : TI T) (hq : q ≤ T.1) (hc : tc T q = 3) : tn T q ≤ 9999 := by
  have hlt := tc0 hq (by omega)
  have h3 := hc
  unfold tc at h3
  rw [if_neg (by omega)] at h3
  have hn4 : te T q - q ≤ 4 ∧ isN (T.2 q) = true ∧ isL (T.2 q) = false := by
    cases hl : isL (T.2 q)
    · rw [hl] at h3
      cases hn : isN (T.2 q)
      · rw [hn] at h3
        simp only [Bool.false_eq_true, if_false] at h3
        have := (zmsg (T.2 q) (by have := I.c hlt; omega)).2.2
        exact absurd h3 this
      · rw [hn] at h3
        simp only [Bool.false_eq_true, if_false, if_true] at h3
        refine ⟨?_, rfl, rfl⟩
        split at h3
        · assumption
        · omega
    · rw [hl] at h3
      simp only [if_true] at h3
      split at h3
      · have := tcl_ge (tcs T q (te T q - q)) zwds 12 (by decide); omega
      · omega
  have ete : te T q = zr (fun k => isN (T.2 k)) T.1 q := by unfold te; rw [if_neg (by omega), hn4.2.2, hn4.2.1]; rfl
  have hd : ∀ j, j < te T q - q → T.2 (q + j) - 48 ≤ 9 := by
    intro j hj
    have hz := (zr_prop (f := fun k => isN (T.2 k)) (N := T.1) (T.1 - q) q rfl hq).2.2.1 (q + j) (by omega) (by rw [← ete]; omega)
    unfold isN at hz
    simp at hz
    omega
  have key : ∀ n, n ≤ te T q - q → tnv T q n < 10 ^ n := by
    intro n
    induction n with
    | zero => intro _; unfold tnv tcs; simp
    | succ n ih =>
      intro hn
      have h1 := ih (by omega)
      have h2 := hd n (by omega)
      rw [tnv_snoc, Nat.pow_succ]
      omega
  have h5 := key (te T q - q) (Nat.le_refl _)
  have h6 : 10 ^ (te T q - q) ≤ 10 ^ 4 := Nat.pow_le_pow_right (by decide) hn4.1
  unfold tn
  have : 10 ^ 4 = 10000 := by decide
  omega
/-- a part's token -/
theorem e_lawPart (I : TI T) (H : CLw T q fs cc b h) (hw : isW fs = true) {k22 : Int32 → zH → Option (Int32 × zH)} {i : Nat} : (∃ h' fs' cc', lst (tc T q) (tn T q) fs = (0, fs') ∧ ((g_X0_takePart h 24).bind fun v_13 => g_X0_readLaw_110 24 k22 (nI i) v_13.1 v_13.2) = k22 (nI (i + 1)) h' ∧ CLw T (tx T q) fs' cc' b h' ∧ zsm (ALx b) h h') ∨ (∃ c, (c = 1 ∨ c = 5) ∧ lst (tc T q) (tn T q) fs = (c, fs) ∧ ((g_X0_takePart h 24).bind fun v_13 => g_X0_readLaw_110 24 k22 (nI i) v_13.1 v_13.2) = some (nI c, h)) := by
  obtain ⟨K, ⟨G, W0, h4, h5, h6, P⟩, hb⟩ := H
  have hq := K.2.1
  have l := I.1
  have htc := tc_lt T q
  have gl := G.2.1
  have wl := wst_len fs
  cases fs with
  | nil => exact G.1.elim
  | cons f r =>
    have hc : fc f = none := by
      have : (fc f).isNone = true := hw
      cases hh : fc f with
      | none => rfl
      | some v => rw [hh] at this; cases this
    have Wn : wnt (f :: r) := hc
    have elst : lst (tc T q) (tn T q) (f :: r) = if tc T q = 35 ∨ tc T q = 4 ∨ tc T q = 3 ∨ 38 ≤ tc T q then (if 5 ≤ r.length then (5, f :: r) else (0, if tc T q = 35 then fr0 1 :: f :: r else if tc T q = 4 then fr0 2 :: f :: r else prt (vl (tc T q) (tn T q)) (f :: r))) else (1, f :: r) := by
      simp only [lst]; rw [hc]
    have hlen : (f :: r).length - 1 = r.length := by simp
    simp only [List.length_cons] at gl wl
    rw [hlen] at h5
    have e35 : (nI (tc T q) = (35 : Int32)) = (tc T q = 35) := propext (nI_eq (b := 35) (by omega) (by decide))
    have l38 : ((38 : Int32) ≤ nI (tc T q)) = (38 ≤ tc T q) := propext (nI_leI (a := 38) (by decide) (by omega))
    have e42 : ∀ s0 : Int32, 5 ≤ r.length → g_X0_takePart_42 24 (nI (tc T q)) s0 h = some (5, h) := by
      intro s0 h5r
      unfold g_X0_takePart_42
      rw [h5, if_neg (by rw [zltR_5 (by omega)]; omega)]
    have ehead : g_X0_takePart h 24 = if tc T q = 35 ∨ tc T q = 4 then g_X0_takePart_42 24 (nI (tc T q)) 1 h else if tc T q = 3 ∨ 38 ≤ tc T q then g_X0_takePart_42 24 (nI (tc T q)) 0 h else some (1, h) := by
      unfold g_X0_takePart g_X0_takePart_19 g_X0_takePart_24
      rw [zr21.2.1, K.2.2.2.2.1, zlet_e]
      have n1 : ¬ (1 : Int32) = 0 := by decide
      simp only [e35, l38, zeq_4 (show tc T q < 2147483648 by omega), zeq_3 (show tc T q < 2147483648 by omega), if_neg n1, if_true]
      by_cases c1 : tc T q = 35
      · simp [c1]
      · by_cases c2 : tc T q = 4
        · simp [c2]
        · by_cases c3 : tc T q = 3
          · simp [c3]
          · by_cases c4 : 38 ≤ tc T q
            · simp [c1, c2, c3, c4]
            · simp [c1, c2, c3, c4]
    by_cases cp : tc T q = 35 ∨ tc T q = 4 ∨ tc T q = 3 ∨ 38 ≤ tc T q
    · have hlt : q < T.1 := tc0 hq (by omega)
      by_cases c5 : 5 ≤ r.length
      · right
        refine ⟨5, Or.inr rfl, by rw [elst, if_pos cp, if_pos c5], ?_⟩
        have : g_X0_takePart h 24 = some (5, h) := by
          rw [ehead]
          by_cases d1 : tc T q = 35 ∨ tc T q = 4
          · rw [if_pos d1, e42 1 c5]
          · rw [if_neg d1, if_pos (by omega), e42 0 c5]
        rw [this, zbind_s]
        unfold g_X0_readLaw_110
        rw [if_neg (show ¬ (5 : Int32) = 0 by decide)]; rfl
      · left
        have hd5 : nI r.length < (5 : Int32) := by rw [zltR_5 (by omega)]; omega
        by_cases d1 : tc T q = 35 ∨ tc T q = 4
        · -- a bracket, or a not
          obtain ⟨h2, e2, P2, w2⟩ := e_letWait W0 (by omega) (tc T q)
          have w2' : zsm (ALr b) h h2 := w2.mono (fun a k z => ALr1 (Or.inr z))
          have r5 : h2.1 24 5 = nI r.length := by rw [(w2 _ _ (by unfold A25; omega)).1]; exact h5
          have r4 : h2.1 24 4 = nI (opn (f :: r)) := by rw [(w2 _ _ (by unfold A25; omega)).1]; exact h4
          have r6 : h2.1 24 6 = zb true := by rw [(w2 _ _ (by unfold A25; omega)).1, h6, hw]
          have w3 : zsm (fun a k => a = 24 ∧ (k = 4 ∨ k = 5)) h2 (zpi (zpi h2 24 5 (nI (r.length + 1))) 24 4 (nI (opn (f :: r) + (if tc T q = 4 then 1 else 0)))) := (zsm.pi ⟨rfl, Or.inr rfl⟩).tr (zsm.pi ⟨rfl, Or.inl rfl⟩)
          have hop : opn (f :: r) ≤ 6 := by
            have : ∀ fs : List Fr, opn fs ≤ fs.length := by
              intro fs
              induction fs with
              | nil => simp [opn]
              | cons g s ih => simp only [opn, List.length_cons]; split <;> omega
            have := this (f :: r)
            simp only [List.length_cons] at this
            omega
          generalize hh3 : zpi (zpi h2 24 5 (nI (r.length + 1))) 24 4 (nI (opn (f :: r) + (if tc T q = 4 then 1 else 0))) = h3 at w3
          have etake : g_X0_takePart h 24 = some (0, h3) := by
            rw [ehead, if_pos d1]
            unfold g_X0_takePart_42 g_X0_takePart_86
            have n1 : ¬ (1 : Int32) = 0 := by decide
            rw [h5, if_pos hd5, if_neg n1, e2, zbind_s, r5, nI_1, zlet_e]
            simp only [zeq_4 (show tc T q < 2147483648 by omega)]
            have r4' : (zpi h2 24 5 (nI (r.length + 1))).1 24 4 = nI (opn (f :: r)) := by rw [zpi_r, if_neg (by omega)]; exact r4
            rw [r4']
            by_cases d4 : tc T q = 4
            · rw [if_pos d4] at hh3
              rw [if_pos d4, zlet_e, nI_1, hh3]
            · rw [if_neg d4] at hh3
              rw [if_neg d4, zlet_e, nI_a0]
              rw [← hh3]; rfl
          have efs : lst (tc T q) (tn T q) (f :: r) = (0, fr0 (if tc T q = 4 then 2 else 1) :: f :: r) := by
            rw [elst, if_pos cp, if_neg c5]
            rcases d1 with d1 | d1
            · rw [if_pos d1, if_neg (by omega)]
            · rw [if_neg (by omega), if_pos d1, if_pos d1]
          have gd' := lst_gd G efs
          have hm : CLm (fr0 (if tc T q = 4 then 2 else 1) :: f :: r) cc b h3 := by
            refine ⟨gd', ?_, ?_, ?_, ?_, ?_⟩
            · have : wst (fr0 (if tc T q = 4 then 2 else 1) :: f :: r) = tc T q :: wst (f :: r) := by
                rcases d1 with d1 | d1
                · rw [if_neg (by omega), d1]; rfl
                · rw [if_pos d1, d1]; rfl
              rw [this]
              exact P2.same w3 (fun k => by omega) (by omega) (by omega) (fun k => by omega)
            · rw [← hh3, zpi_r, if_pos ⟨rfl, rfl⟩]
              rcases d1 with d1 | d1
              · rw [if_neg (by omega), if_neg (by omega)]
                show nI (opn (f :: r) + 0) = nI ((if (1 : Nat) = 2 then 1 else 0) + opn (f :: r))
                rw [if_neg (by decide), Nat.add_comm]
              · rw [if_pos d1, if_pos d1]
                show nI (opn (f :: r) + 1) = nI ((if (2 : Nat) = 2 then 1 else 0) + opn (f :: r))
                rw [if_pos rfl, Nat.add_comm]
            · rw [← hh3, zpi_r, if_neg (by omega), zpi_r, if_pos ⟨rfl, rfl⟩]; simp
            · rw [(w3 _ _ (by omega)).1, r6]; rfl
            · have : ost (fr0 (if tc T q = 4 then 2 else 1) :: f :: r) = ost (f :: r) := by
                funext e; rfl
              rw [this]; exact P
          have hwl : (wst (fr0 (if tc T q = 4 then 2 else 1) :: f :: r)).length = (wst (f :: r)).length + 1 := by
            rcases d1 with d1 | d1
            · rw [if_neg (by omega)]; rfl
            · rw [if_pos d1]; rfl
          have w23 : zsm (ALr b) h h3 := w2'.tr (w3.mono (fun a k z => by unfold ALr; omega))
          obtain ⟨h9, e9, K9, w9⟩ := e_110 I (k22 := k22) (i := i) (K.lr w23) hlt hm (by rw [hwl]; omega)
          refine ⟨h9, _, cc, efs, ?_, K9, (w23.mono (fun a k z => Or.inl z)).tr w9⟩
          rw [etake, zbind_s]; exact e9
        · -- a number, or a fact
          have dv : tc T q = 3 ∨ 38 ≤ tc T q := by omega
          have efs : lst (tc T q) (tn T q) (f :: r) = (0, prt (vl (tc T q) (tn T q)) (f :: r)) := by
            rw [elst, if_pos cp, if_neg c5, if_neg (by omega), if_neg (by omega)]
          have ol : ∀ e, (ost (f :: r) e).length < 32 := fun e => by have := ost_len e (f :: r); simp only [List.length_cons] at this; omega
          have emit : ∃ h2 cv, (g_X0_takePart h 24 = (g_X0_endPart h2 24).bind fun v_15 => some (0, v_15)) ∧ CW (wst (f :: r)) (cc ++ [cv]) b h2 ∧ PO (cc ++ [cv]) (fun e => vl (tc T q) (tn T q) e :: ost (f :: r) e) ∧ zsm (A22 b) h h2 := by
            have n0 : (0 : Int32) = 0 := rfl
            by_cases d3 : tc T q = 3
            · obtain ⟨h2, e2, P2, w2⟩ := e_addTok W0 (by omega) (nI (tn T q) ^^^ (-1))
              refine ⟨h2, _, ?_, P2, ?_, w2⟩
              · rw [ehead, if_neg d1, if_pos dv]
                unfold g_X0_takePart_42 g_X0_takePart_122 g_X1_addNumber
                rw [h5, if_pos hd5, if_pos rfl, if_pos (by rw [zeq_3 (by omega)]; exact d3), zr21.2.1, zr21.2.2.1, K.2.2.2.2.2 d3, e2, zbind_s, zbind_s]
              · have := P.num ol (tn T q) (by have := tn_lt I hq d3; omega)
                unfold vl
                rw [if_pos d3]; exact this
            · obtain ⟨h2, e2, P2, w2⟩ := e_addTok W0 (by omega) (nI (tc T q))
              refine ⟨h2, _, ?_, P2, ?_, w2⟩
              · rw [ehead, if_neg d1, if_pos dv]
                unfold g_X0_takePart_42 g_X0_takePart_122
                rw [h5, if_pos hd5, if_pos rfl, if_neg (by rw [zeq_3 (by omega)]; exact d3), zr21.2.2.1, e2, zbind_s]
              · have := P.val ol (tc T q) (by omega) (by omega)
                unfold vl
                rw [if_neg d3]; exact this
          obtain ⟨h2, cv, etake, P2, PP, w2⟩ := emit
          have hc1 : (cc ++ [cv]).length = cc.length + 1 := by simp
          obtain ⟨h3, cc3, e3, M3, len3, w3⟩ := e_endPart (v := vl (tc T q) (tn T q)) (by simp only [List.length_cons]; omega) G.1 Wn G.2.2.1 P2 (by rw [hc1]; omega) (by rw [(w2 _ _ (by unfold A22; omega)).1]; exact h4) (by rw [(w2 _ _ (by unfold A22; omega)).1, hlen]; exact h5) PP
          have w23 : zsm (ALr b) h h3 := (w2.mono (fun a k z => ALr1 (Or.inl z))).tr w3
          obtain ⟨h9, e9, K9, w9⟩ := e_110 I (k22 := k22) (i := i) (K.lr w23) hlt M3 (by rw [hc1] at len3; omega)
          refine ⟨h9, _, cc3, efs, ?_, K9, (w23.mono (fun a k z => Or.inl z)).tr w9⟩
          rw [etake, e3, zbind_s, zbind_s]; exact e9
    · right
      refine ⟨1, Or.inl rfl, by rw [elst, if_neg cp], ?_⟩
      rw [ehead, if_neg (by omega), if_neg (by omega), zbind_s]
      unfold g_X0_readLaw_110
      rw [if_neg (show ¬ (1 : Int32) = 0 by decide)]; rfl
end L7
