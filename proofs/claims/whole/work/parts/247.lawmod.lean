/-! laws: the reference reads one -/
def rlv (h : zH) : List Fr → Prop
  | [] => True
  | f :: r => (¬ r = [] → h.1 152 r.length = nI (fm f)) ∧ h.1 153 r.length = zb (fA f).isSome ∧ rlv h r
def RW (rc : List Int32) (B : Nat) (h : zH) : Prop := h.1 139 21 = nI (1000 + B + rc.length) ∧ ∀ j, j < rc.length → h.1 151 (1000 + B + j) = rc.getD j 0
def MLm (fs : List Fr) (rc : List Int32) (B : Nat) (h : zH) : Prop := gd fs ∧ RW rc B h ∧ rlv h fs ∧ IN rc fs
def MLw (T : zTp) (q : Nat) (fs : List Fr) (rc : List Int32) (B : Nat) (h : zH) : Prop := MT T q h ∧ MLm fs rc B h ∧ B + rc.length ≤ q
def AR1 (B : Nat) : Nat → Nat → Prop := fun a k => (a = 139 ∧ k = 21) ∨ (a = 151 ∧ 1000 + B ≤ k)
def AR2 : Nat → Nat → Prop := fun a _ => a = 152 ∨ a = 153
/-- what reading a law writes -/
def ARr (B : Nat) : Nat → Nat → Prop := fun a k => (AR1 B) a k ∨ AR2 a k ∨ AM1 a k ∨ (a = 139 ∧ k = 9)
def RStp (T : zTp) (q B n : Nat) (fs : List Fr) (rc : List Int32) (h : zH) : Prop :=
  (∃ h' fs' rc', lst (tc T q) (tn T q) fs = (0, fs') ∧ g_X12_reads_11 139 (n + 1) (nI (fs.length - 1)) (zb (isW fs)) h = g_X12_reads_11 139 n (nI (fs'.length - 1)) (zb (isW fs')) h' ∧ MLw T (tx T q) fs' rc' B h' ∧ zsm (ARr B) h h') ∨ (∃ c h', (c = 1 ∨ c = 5) ∧ (lst (tc T q) (tn T q) fs).1 = c ∧ g_X12_reads_11 139 (n + 1) (nI (fs.length - 1)) (zb (isW fs)) h = some (false, h') ∧ h'.1 139 9 = nI (c + 16 * q) ∧ zsm (ARr B) h h') ∨ (∃ h' f v, lst (tc T q) (tn T q) fs = (9, fs) ∧ fs = [f] ∧ fc f = some v ∧ ((tc T q = 11 ∧ g_X12_reads_11 139 (n + 1) (nI (fs.length - 1)) (zb (isW fs)) h = some (true, h') ∧ MT T (tx T q) h' ∧ RW rc B h') ∨ (¬ tc T q = 11 ∧ g_X12_reads_11 139 (n + 1) (nI (fs.length - 1)) (zb (isW fs)) h = some (false, h') ∧ h'.1 139 9 = nI (1 + 16 * q))) ∧ zsm (ARr B) h h')
section L10
variable {h h' : zH} {A : Nat → Nat → Prop} {T : zTp} {q B : Nat} {rc : List Int32} {f : Fr} {r fs : List Fr}
theorem RW.same (H : RW rc B h) (x : zsm A h h') (h1 : ¬ A 139 21) (h2 : ∀ k, 1000 ≤ k → ¬ A 151 k) : RW rc B h' := ⟨by rw [(x _ _ h1).1]; exact H.1, fun j hj => by rw [(x _ _ (h2 _ (by omega))).1]; exact H.2 j hj⟩
theorem rlv_same : ∀ {fs : List Fr}, rlv h fs → (∀ a k, k < fs.length → a = 152 ∨ a = 153 → h'.1 a k = h.1 a k) → rlv h' fs := by
  intro fs
  induction fs with
  | nil => intro _ _; trivial
  | cons f r ih => intro H x; exact ⟨fun z => by rw [x 152 r.length (by simp) (by omega)]; exact H.1 z, by rw [x 153 r.length (by simp) (by omega)]; exact H.2.1, ih H.2.2 (fun a k hk ha => x a k (by simp only [List.length_cons]; omega) ha)⟩
theorem e_puts (H : RW rc B h) (hb : B + rc.length < 1000) (c : Int32) : ∃ h', g_X12_puts h 139 c = some h' ∧ RW (rc ++ [c]) B h' ∧ zsm (AR1 B) h h' := by
  obtain ⟨h3, h4⟩ := H
  have w : zsm (AR1 B) h (zpi (zpi h 151 (1000 + B + rc.length) c) 139 21 (nI (1000 + B + rc.length + 1))) := (zsm.pi (by unfold AR1; omega)).tr (zsm.pi (by unfold AR1; omega))
  have hl : (rc ++ [c]).length = rc.length + 1 := by simp
  refine ⟨zpi (zpi h 151 (1000 + B + rc.length) c) 139 21 (nI (1000 + B + rc.length + 1)), ?_, ⟨?_, fun j hj => ?_⟩, w⟩
  · unfold g_X12_puts
    rw [h3, zin_t (by omega) (by omega), zgu_t, zx_nI (by omega), zr_139_20, zlet_e, zpi_r, if_neg (by omega), h3, nI_1, zlet_e]
  · rw [zpi_r, if_pos ⟨rfl, rfl⟩, hl]; rfl
  · rw [hl] at hj
    rw [zpi_r, if_neg (by omega), zpi_r]
    by_cases e : j = rc.length
    · subst e
      rw [if_pos ⟨rfl, rfl⟩, List.getD_eq_getElem?_getD, List.getElem?_append_right (Nat.le_refl _)]; simp
    · rw [if_neg (by omega), h4 j (by omega), List.getD_eq_getElem?_getD, List.getD_eq_getElem?_getD, List.getElem?_append_left (by omega)]
theorem e_failsM (K : MT T q h) (I : TI T) {c : Nat} (hc : c < 16) : ∃ h', g_X12_fails h 139 (nI c) = some (false, h') ∧ h'.1 139 9 = nI (c + 16 * q) ∧ zsm (fun a k => a = 139 ∧ k = 9) h h' := by
  have l := I.1
  have hq := K.2.1
  refine ⟨zpi h 139 9 (nI (c + 16 * q)), ?_, by rw [zpi_r, if_pos ⟨rfl, rfl⟩], zsm.pi ⟨rfl, rfl⟩⟩
  unfold g_X12_fails
  rw [K.2.2.1, zmL_16, nI_add, zlet_e]
theorem MT.ar (K : MT T q h) (x : zsm (fun a k => (AR1 B) a k ∨ AR2 a k) h h') : MT T q h' := K.same x (fun k h3 h8 => by unfold AR1 AR2; omega) (fun k => by unfold AR1 AR2; omega)
/-- the token is gone past -/
theorem e_424 (I : TI T) {k11 : Int32 → Int32 → zH → Option (Bool × zH)} {x1 x2 : Int32} (K : MT T q h) (hq : q < T.1) (H : MLm fs rc B h) (hb : B + rc.length ≤ q + 1) : ∃ h', g_X12_reads_424 139 k11 x1 x2 h = k11 x1 x2 h' ∧ MLw T (tx T q) fs rc B h' ∧ zsm (ARr B) h h' := by
  obtain ⟨h2, e2, K2, w2⟩ := e_next I K
  have := (tx_prop (T := T) K.2.1).2.2 hq
  obtain ⟨a1, a2, a3, a4⟩ := H
  refine ⟨h2, ?_, ⟨K2, ⟨a1, a2.same w2 (by unfold AM1; omega) (fun k _ => by unfold AM1; omega), rlv_same a3 (fun a k _ ha => (w2 _ _ (by unfold AM1; omega)).1), a4⟩, by omega⟩, w2.mono (fun a k z => Or.inr (Or.inr (Or.inl z)))⟩
  unfold g_X12_reads_424
  rw [e2, zbind_s]
/-- those that deny it are gone through -/
theorem e_379 (v : Fn) {k11 : Int32 → Int32 → zH → Option (Bool × zH)} {x2 : Int32} : ∀ (fs : List Fr) (n : Nat), okF fs → fs.length ≤ 6 → fs.length ≤ n → rlv h fs → g_X12_reads_379 139 k11 n (nI (fs.length - 1)) x2 h = g_X12_reads_424 139 k11 (nI ((prt v fs).length - 1)) x2 h ∧ rlv h (prt v fs) := by
  intro fs
  induction fs generalizing v with
  | nil => intro n G; exact G.elim
  | cons f r ih =>
    intro n G hl hn H
    simp only [List.length_cons] at hl hn
    obtain ⟨n, rfl⟩ : ∃ m, n = m + 1 := ⟨n - 1, by omega⟩
    have e1 : (f :: r).length - 1 = r.length := by simp
    rw [e1, g_X12_reads_379]
    have g1 := G.1
    by_cases cr : r = []
    · subst cr
      rw [if_pos rfl] at g1
      have e2 : prt v [f] = [(fm f, fK f, fA f, fS f, fp f, some v)] := by simp only [prt]; rw [if_neg (by omega)]
      rw [e2, if_pos (by decide)]
      exact ⟨rfl, fun z => absurd rfl z, H.2.1, trivial⟩
    · rw [if_neg cr] at g1
      have hr1 : 1 ≤ r.length := by
        cases r with
        | nil => exact absurd rfl cr
        | cons _ _ => simp
      rw [if_neg (by rw [zleR_0 (by omega)]; omega), zin_t (by omega) (by omega), zgu_t, zx_nI (by omega), zr_139_23, H.1 cr]
      by_cases c1 : fm f = 1
      · have e2 : prt v (f :: r) = prt (fun e => nt (v e)) r := by simp only [prt]; rw [if_pos c1]
        have e3 : nI r.length + (-1) = nI (r.length - 1) := by
          have := nI_s1 (a := r.length) (by omega)
          rw [← this, Int32.sub_eq_add_neg]
        rw [if_pos (by rw [c1]; rfl), e2, e3]
        exact ih _ n g1.2.1 (by omega) (by omega) H.2.2
      · have e2 : prt v (f :: r) = (fm f, fK f, fA f, fS f, fp f, some v) :: r := by simp only [prt]; rw [if_neg c1]
        rw [if_neg (by rw [zeq_1 (by omega)]; exact c1), e2]
        exact ⟨rfl, H⟩
theorem e_152 {k11 : Int32 → Int32 → zH → Option (Bool × zH)} : ∀ n x1 x2 (h : zH), g_X12_reads_152 139 k11 n x1 x2 h = g_X12_reads_379 139 k11 n x1 x2 h := by
  intro n
  induction n with
  | zero => intro x1 x2 h; rfl
  | succ n ih => intro x1 x2 h; rw [g_X12_reads_152, g_X12_reads_379, ih]; rfl
theorem isW_prt (v : Fn) (fs : List Fr) (G : okF fs) (W : wnt fs) (O : oko fs) : isW (prt v fs) = false := by
  obtain ⟨k, a1, a2, a3, a4, a5, a6⟩ := prt_facts v fs G W O
  exact a5
theorem e_modPart (I : TI T) (H : MLw T q fs rc B h) (hw : isW fs = true) {n : Nat} : RStp T q B n fs rc h := by
  obtain ⟨K, ⟨G, C, V, P⟩, hb⟩ := H
  have hq := K.2.1
  have l := I.1
  have htc := tc_lt T q
  have gl := G.2.1
  cases fs with
  | nil => exact G.1.elim
  | cons f r =>
    have hc : fc f = none := by
      have : (fc f).isNone = true := hw
      cases hh : fc f with
      | none => rfl
      | some v => rw [hh] at this; cases this
    have Wn : wnt (f :: r) := hc
    have elst : lst (tc T q) (tn T q) (f :: r) = if tc T q = 35 ∨ tc T q = 4 ∨ tc T q = 3 ∨ 38 ≤ tc T q then (if 5 ≤ r.length then (5, f :: r) else (0, if tc T q = 35 then fr0 1 :: f :: r else if tc T q = 4 then fr0 2 :: f :: r else prt (vl (tc T q) (tn T q)) (f :: r))) else (1, f :: r) := by
      simp only [lst]; rw [hc]
    have hlen : (f :: r).length - 1 = r.length := by simp
    simp only [List.length_cons] at gl
    have x1 : g_X12_fact h 139 = some (nI (tfc T q)) := e_fact I K
    have x2 : g_X12_isWord h 139 10631 = some (decide (tc T q = 35)) := e_isWord I K (i := 23) (by decide) 10631 wl_23
    have x3 : g_X12_isSign h 139 40 = some (decide (tc T q = 4)) := e_isSign I K (c := 40) (by decide) (by decide)
    have x4 : (h.1 139 6 = 2) = (tc T q = 3) := by
      rw [K.2.2.2.2.1]
      have : mtk (tc T q) < 5 := by unfold mtk; repeat' split
                                    all_goals omega
      rw [zeq_2 (by omega)]
      apply propext
      unfold mtk
      constructor
      · intro z
        repeat' split at z
        all_goals omega
      · intro z
        rw [z]; rfl
    have tf : (tfc T q = 0) = (tc T q < 38) := by
      unfold tfc
      apply propext
      split <;> omega
    have tfl : tfc T q < 5 := by unfold tfc; split <;> omega
    have e11 : g_X12_reads_11 139 (n + 1) (nI r.length) (zb true) h = if tc T q = 35 ∨ tc T q = 4 ∨ tc T q = 3 ∨ 38 ≤ tc T q then g_X12_reads_65 139 (g_X12_reads_11 139 n) (nI r.length) 1 (nI (tfc T q)) (zb (decide (tc T q = 35))) (zb (decide (tc T q = 4))) h else ((g_X12_fails h 139 1).bind fun v_21 => some (v_21.1, v_21.2)) := by
      rw [g_X12_reads_11, zb_t, if_neg (by decide), x1, zbind_s, x2, zbind_s, x3, zbind_s]
      simp only [zeq_0 (show tfc T q < 2147483648 by omega), tf, x4, zb_eq0]
      by_cases d1 : tc T q < 38
      · rw [if_pos d1]
        by_cases d2 : tc T q = 35
        · rw [if_neg (by simp [d2]), if_pos (Or.inl d2)]
        · rw [if_pos (by simp [d2])]
          by_cases d3 : tc T q = 4
          · rw [if_neg (by simp [d3]), if_pos (by omega)]
          · rw [if_pos (by simp [d3])]
            by_cases d4 : tc T q = 3
            · rw [if_pos d4, if_pos (by omega)]
            · rw [if_neg d4, if_neg (by omega)]
      · rw [if_neg d1, if_pos (by omega)]
    unfold RStp
    rw [hlen, hw]
    by_cases cp : tc T q = 35 ∨ tc T q = 4 ∨ tc T q = 3 ∨ 38 ≤ tc T q
    · rw [if_pos cp] at e11
      have hlt : q < T.1 := tc0 hq (by omega)
      by_cases c5 : 5 ≤ r.length
      · obtain ⟨h2, e2, k2, w2⟩ := e_failsM K I (c := 5) (by decide)
        refine Or.inr (Or.inl ⟨5, h2, Or.inr rfl, by rw [elst, if_pos cp, if_pos c5], ?_, k2, w2.mono (fun a k z => Or.inr (Or.inr (Or.inr z)))⟩)
        rw [e11]
        unfold g_X12_reads_65
        have e2' : g_X12_fails h 139 5 = some (false, h2) := e2
        rw [if_pos (by rw [zeq_5 (by omega)]; omega), e2', zbind_s]
      · left
        have e65 : g_X12_reads_65 139 (g_X12_reads_11 139 n) (nI r.length) 1 (nI (tfc T q)) (zb (decide (tc T q = 35))) (zb (decide (tc T q = 4))) h = if tc T q = 35 ∨ tc T q = 4 then g_X12_reads_86 139 (g_X12_reads_11 139 n) (nI r.length) 1 (zb (decide (tc T q = 35))) h else g_X12_reads_147 139 (g_X12_reads_11 139 n) (nI r.length) (nI (if tc T q < 38 then 100 + tn T q else tc T q - 37)) h := by
          unfold g_X12_reads_65
          rw [if_neg (by rw [zeq_5 (by omega)]; omega)]
          simp only [zb_eq0]
          by_cases d2 : tc T q = 35
          · rw [if_neg (by simp [d2]), if_pos (Or.inl d2)]
          · rw [if_pos (by simp [d2])]
            by_cases d3 : tc T q = 4
            · rw [if_neg (by simp [d3]), if_pos (Or.inr d3)]
            · rw [if_pos (by simp [d3]), if_neg (show ¬ (tc T q = 35 ∨ tc T q = 4) by omega)]
              by_cases d1 : tc T q < 38
              · have d4 : tc T q = 3 := by omega
                rw [if_pos (by rw [zleR_0 (by omega)]; have := tf; rw [show (tfc T q ≤ 0) = (tfc T q = 0) from propext Nat.le_zero, tf]; exact d1), if_pos d1, K.2.2.2.2.2.2 d4, zaL_100]
              · rw [if_neg (by rw [zleR_0 (by omega)]; unfold tfc; rw [if_pos (by omega)]; omega), if_neg d1]
                unfold tfc
                rw [if_pos (by omega)]
        by_cases d1 : tc T q = 35 ∨ tc T q = 4
        · -- a bracket, or a not
          have efs : lst (tc T q) (tn T q) (f :: r) = (0, fr0 (if tc T q = 4 then 2 else 1) :: f :: r) := by
            rw [elst, if_pos cp, if_neg c5]
            rcases d1 with d1 | d1
            · rw [if_pos d1, if_neg (by omega)]
            · rw [if_neg (by omega), if_pos d1, if_pos d1]
          generalize hm : (if tc T q = 4 then 2 else 1 : Nat) = m at efs
          have hm12 : (m = 1 ∧ tc T q = 35) ∨ (m = 2 ∧ tc T q = 4) := by
            rcases d1 with d1 | d1
            · rw [if_neg (by omega)] at hm; exact Or.inl ⟨hm.symm, d1⟩
            · rw [if_pos d1] at hm; exact Or.inr ⟨hm.symm, d1⟩
          obtain ⟨h2, e2, C2, w2⟩ := e_puts C (by omega) (if m = 1 then 30 else 28)
          have gd' := lst_gd G efs
          have w3 : zsm (fun a k => (a = 152 ∨ a = 153) ∧ k = r.length + 1) h2 (zpi (zpi h2 152 (r.length + 1) (nI m)) 153 (r.length + 1) 0) := (zsm.pi ⟨Or.inl rfl, rfl⟩).tr (zsm.pi ⟨Or.inr rfl, rfl⟩)
          generalize hh3 : zpi (zpi h2 152 (r.length + 1) (nI m)) 153 (r.length + 1) 0 = h3 at w3
          have w23 : zsm (fun a k => (AR1 B) a k ∨ AR2 a k) h h3 := (w2.mono (fun a k z => Or.inl z)).tr (w3.mono (fun a k z => Or.inr z.1))
          have hm : MLm (fr0 m :: f :: r) (rc ++ [if m = 1 then 30 else 28]) B h3 := by
            refine ⟨gd', C2.same w3 (by omega) (fun k _ => by omega), ⟨fun _ => ?_, ?_, ?_⟩, IN.brk P Wn (by simp only [List.length_cons]; omega) (by omega)⟩
            · rw [← hh3, zpi_r, if_neg (by omega), zpi_r, if_pos ⟨rfl, rfl⟩]; rfl
            · rw [← hh3, zpi_r, if_pos ⟨rfl, rfl⟩]; rfl
            · refine rlv_same V (fun a k hk ha => ?_)
              simp only [List.length_cons] at hk
              rw [(w3 _ _ (by omega)).1, (w2 _ _ (by unfold AR1; omega)).1]
          obtain ⟨h9, e9, K9, w9⟩ := e_424 I (k11 := g_X12_reads_11 139 n) (x1 := nI (r.length + 1)) (x2 := 1) (K.ar w23) hlt hm (by simp; omega)
          refine ⟨h9, _, _, efs, ?_, K9, (w23.mono (fun a k z => by unfold ARr; rcases z with z | z; exact Or.inl z; exact Or.inr (Or.inl z))).tr w9⟩
          have ev : vp_nar .boolean 0 = 0 := vnar false
          have e172 : ∀ x1 x2 h, g_X12_reads_172 139 (g_X12_reads_11 139 n) x1 x2 h = g_X12_reads_424 139 (g_X12_reads_11 139 n) x1 x2 h := fun _ _ _ => rfl
          have e120 : g_X12_reads_120 139 (g_X12_reads_11 139 n) (nI (r.length + 1)) 1 (nI m) (nI (r.length + 1)) h2 = g_X12_reads_11 139 n (nI (r.length + 1)) 1 h9 := by
            unfold g_X12_reads_120
            rw [zin_t (by omega) (by omega), zgu_t, zx_nI (by omega), zr_139_23, zr_139_24, ev, zlet_e, zgu_t, zlet_e, hh3, e172]; exact e9
          rw [e11, e65, if_pos d1]
          unfold g_X12_reads_86 g_X12_reads_99
          simp only [zb_eq0]
          have e30 : (fr0 m :: f :: r).length - 1 = r.length + 1 := by simp
          rw [e30, show isW (fr0 m :: f :: r) = true from rfl, zb_t, ← e120]
          rcases hm12 with ⟨rfl, d⟩ | ⟨rfl, d⟩
          · rw [if_pos rfl] at e2
            rw [if_neg (by simp [d]), e2, zbind_s, if_neg (by simp [d]), nI_1]; rfl
          · rw [if_neg (by decide)] at e2
            rw [if_pos (by simp [d]), e2, zbind_s, if_pos (by simp [d]), nI_1]; rfl
        · -- a number, or a fact
          have dv : tc T q = 3 ∨ 38 ≤ tc T q := by omega
          have efs : lst (tc T q) (tn T q) (f :: r) = (0, prt (vl (tc T q) (tn T q)) (f :: r)) := by
            rw [elst, if_pos cp, if_neg c5, if_neg (by omega), if_neg (by omega)]
          have gd' := lst_gd G efs
          obtain ⟨h2, e2, C2, w2⟩ := e_puts C (by omega) (nI (if tc T q < 38 then 100 + tn T q else tc T q - 37))
          have w23 : zsm (fun a k => (AR1 B) a k ∨ AR2 a k) h h2 := w2.mono (fun a k z => Or.inl z)
          have V2 : rlv h2 (f :: r) := rlv_same V (fun a k _ ha => (w2 _ _ (by unfold AR1; omega)).1)
          obtain ⟨e3, V3⟩ := e_379 (h := h2) (vl (tc T q) (tn T q)) (k11 := g_X12_reads_11 139 n) (x2 := 0) (f :: r) zfu G.1 (by simp only [List.length_cons]; omega) (by show _ ≤ 4000; simp only [List.length_cons]; omega) V2
          have PP : IN (rc ++ [nI (if tc T q < 38 then 100 + tn T q else tc T q - 37)]) (prt (vl (tc T q) (tn T q)) (f :: r)) := by
            by_cases d4 : tc T q = 3
            · rw [if_pos (by omega)]
              have := IN.num P Wn (m := tn T q) (tn_lt I hq d4)
              unfold vl
              rw [if_pos d4]; exact this
            · rw [if_neg (by omega)]
              have := IN.fct P Wn (t := tc T q - 37) (by omega) (by omega)
              unfold vl
              rw [if_neg d4]
              have s1 : (tc T q - 37 = 1) = (tc T q = 38) := propext (by omega)
              have s2 : (tc T q - 37 = 2) = (tc T q = 39) := propext (by omega)
              have s3 : (tc T q - 37 = 3) = (tc T q = 40) := propext (by omega)
              simp only [s1, s2, s3] at this
              exact this
          obtain ⟨h9, e9, K9, w9⟩ := e_424 I (k11 := g_X12_reads_11 139 n) (x1 := nI ((prt (vl (tc T q) (tn T q)) (f :: r)).length - 1)) (x2 := 0) (K.ar w23) hlt (fs := prt (vl (tc T q) (tn T q)) (f :: r)) ⟨gd', C2, V3, PP⟩ (by simp; omega)
          refine ⟨h9, _, _, efs, ?_, K9, (w23.mono (fun a k z => by unfold ARr; rcases z with z | z; exact Or.inl z; exact Or.inr (Or.inl z))).tr w9⟩
          rw [e11, e65, if_neg d1]
          unfold g_X12_reads_147
          rw [e2, zbind_s, e_152]
          rw [hlen] at e3
          rw [e3, e9, isW_prt _ _ G.1 Wn G.2.2.1]; rfl
    · rw [if_neg cp] at e11
      obtain ⟨h2, e2, k2, w2⟩ := e_failsM K I (c := 1) (by decide)
      refine Or.inr (Or.inl ⟨1, h2, Or.inl rfl, by rw [elst, if_neg cp], ?_, k2, w2.mono (fun a k z => Or.inr (Or.inr (Or.inr z)))⟩)
      have e2' : g_X12_fails h 139 1 = some (false, h2) := e2
      rw [e11, e2', zbind_s]
end L10
