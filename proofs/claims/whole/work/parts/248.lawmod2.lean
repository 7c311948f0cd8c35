/-! laws: the reference reads one: operators, brackets closed, the end -/
section L11
variable {h h' : zH} {A : Nat → Nat → Prop} {T : zTp} {q B : Nat} {rc : List Int32} {f : Fr} {r fs : List Fr}
theorem e_modOp (I : TI T) (H : MLw T q fs rc B h) (hw : isW fs = false) {n : Nat} : RStp T q B n fs rc h := by
  obtain ⟨K, ⟨G, C, V, P⟩, hb⟩ := H
  have hq := K.2.1
  have l := I.1
  have htc := tc_lt T q
  have gl := G.2.1
  cases fs with
  | nil => exact G.1.elim
  | cons f r =>
    obtain ⟨v, hv⟩ : ∃ v, fc f = some v := by
      cases hh : fc f with
      | none => have : (fc f).isNone = false := hw
                rw [hh] at this; cases this
      | some v => exact ⟨v, rfl⟩
    have h1 : ¬ fm f = 1 := G.2.2.2 ⟨v, hv⟩
    have O := G.2.2.1
    have elst : lst (tc T q) (tn T q) (f :: r) = (if tc T q = 10 then (0, (fm f, fK f, fA f, fS f, some (pr (fp f) v), none) :: r) else if tc T q = 8 ∨ tc T q = 9 then (0, (fm f, fK f, fA f, some (tc T q, co (fS f) (pr (fp f) v)), none, none) :: r) else if tc T q = 6 ∨ tc T q = 7 then (if (fA f).isSome then (1, f :: r) else (0, (fm f, fK f, some (tc T q, co (fS f) (pr (fp f) v)), none, none, none) :: r)) else if tc T q = 36 ∨ tc T q = 37 then (0, (fm f, some (tc T q, fv f v), none, none, none, none) :: r) else if tc T q = 5 ∧ fm f = 2 then (0, prt (fv f v) r) else if fm f = 2 then (1, f :: r) else (9, f :: r)) := by
      simp only [lst]; rw [hv]
    have hlen : (f :: r).length - 1 = r.length := by simp
    simp only [List.length_cons] at gl
    have s43 : g_X12_isSign h 139 43 = some (decide (tc T q = 8)) := e_isSign I K (c := 43) (by decide) (by decide)
    have s45 : g_X12_isSign h 139 45 = some (decide (tc T q = 9)) := e_isSign I K (c := 45) (by decide) (by decide)
    have s42 : g_X12_isSign h 139 42 = some (decide (tc T q = 10)) := e_isSign I K (c := 42) (by decide) (by decide)
    have s60 : g_X12_isSign h 139 60 = some (decide (tc T q = 6)) := e_isSign I K (c := 60) (by decide) (by decide)
    have s61 : g_X12_isSign h 139 61 = some (decide (tc T q = 7)) := e_isSign I K (c := 61) (by decide) (by decide)
    have s41 : g_X12_isSign h 139 41 = some (decide (tc T q = 5)) := e_isSign I K (c := 41) (by decide) (by decide)
    have s59 : g_X12_isSign h 139 59 = some (decide (tc T q = 11)) := e_isSign I K (c := 59) (by decide) (by decide)
    have wa : g_X12_isWord h 139 1111 = some (decide (tc T q = 36)) := e_isWord I K (i := 24) (by decide) 1111 wl_24
    have wo : g_X12_isWord h 139 423 = some (decide (tc T q = 37)) := e_isWord I K (i := 25) (by decide) 423 wl_25
    have e11 : g_X12_reads_11 139 (n + 1) (nI r.length) (zb false) h = if tc T q = 8 ∨ tc T q = 9 ∨ tc T q = 10 then g_X12_reads_206 139 (g_X12_reads_11 139 n) (nI r.length) h else if tc T q = 6 ∨ tc T q = 7 then g_X12_reads_263 139 (g_X12_reads_11 139 n) (nI r.length) 0 h else g_X12_reads_304 139 (g_X12_reads_11 139 n) (nI r.length) 0 h := by
      rw [g_X12_reads_11, zb_f, if_pos rfl, s43, zbind_s]
      simp only [s45, s42, s60, s61, zbind_s, zb_eq0, decide_eq_false_iff_not]
      by_cases d1 : tc T q = 8
      · rw [if_neg (fun z => z d1), if_pos (Or.inl d1)]
      · rw [if_pos d1]
        by_cases d2 : tc T q = 9
        · rw [if_neg (fun z => z d2), if_pos (by omega)]
        · rw [if_pos d2]
          by_cases d3 : tc T q = 10
          · rw [if_neg (fun z => z d3), if_pos (by omega)]
          · rw [if_pos d3, if_neg (show ¬ (tc T q = 8 ∨ tc T q = 9 ∨ tc T q = 10) by omega)]
            by_cases d4 : tc T q = 6
            · rw [if_neg (fun z => z d4), if_pos (Or.inl d4)]
            · rw [if_pos d4]
              by_cases d5 : tc T q = 7
              · rw [if_neg (fun z => z d5), if_pos (Or.inr d5)]
              · rw [if_pos d5, if_neg (by omega)]
    have e304 : g_X12_reads_304 139 (g_X12_reads_11 139 n) (nI r.length) 0 h = if tc T q = 36 ∨ tc T q = 37 then g_X12_reads_324 139 (g_X12_reads_11 139 n) (nI r.length) h else if tc T q = 5 ∧ ¬ r.length = 0 then ((g_X12_puts h 139 29).bind fun v_37 => g_X12_reads_379 139 (g_X12_reads_11 139 n) zfu (nI r.length + (-1)) 0 v_37) else g_X12_reads_399 139 (nI r.length) h := by
      unfold g_X12_reads_304
      simp only [wa, wo, s41, zbind_s, zb_eq0, decide_eq_false_iff_not, zleR_0 (show r.length < 2147483648 by omega), Nat.le_zero]
      by_cases d1 : tc T q = 36
      · rw [if_neg (fun z => z d1), if_pos (Or.inl d1)]
      · rw [if_pos d1]
        by_cases d2 : tc T q = 37
        · rw [if_neg (fun z => z d2), if_pos (Or.inr d2)]
        · rw [if_pos d2, if_neg (show ¬ (tc T q = 36 ∨ tc T q = 37) by omega)]
          by_cases d3 : tc T q = 5
          · rw [if_neg (fun z => z d3)]
            by_cases d4 : r.length = 0
            · rw [if_pos d4, if_neg (fun z => z.2 d4)]
            · rw [if_neg d4, if_pos ⟨d3, d4⟩]
          · rw [if_pos d3, if_neg (fun z => d3 z.1)]
    obtain ⟨hf, ef, kf, wf⟩ := e_failsM K I (c := 1) (by decide)
    have ef' : g_X12_reads_418 139 h = some (false, hf) := by
      unfold g_X12_reads_418
      have : g_X12_fails h 139 1 = some (false, hf) := ef
      rw [this, zbind_s]
    have wf' : zsm (ARr B) h hf := wf.mono (fun a k z => Or.inr (Or.inr (Or.inr z)))
    have e399 : ¬ tc T q = 11 → g_X12_reads_399 139 (nI r.length) h = some (false, hf) := by
      intro d
      unfold g_X12_reads_399
      rw [ef', s59, zbind_s]
      simp only [zb_eq0, decide_eq_false_iff_not]
      rw [if_pos d]
      split <;> rfl
    have up : ∀ a k, (AR1 B) a k ∨ AR2 a k → (ARr B) a k := fun a k z => by
      rcases z with z | z
      · exact Or.inl z
      · exact Or.inr (Or.inl z)
    unfold RStp
    rw [hlen, hw]
    -- the end of each operator
    have fin : ∀ (rc2 : List Int32) (h2 : zH) (f' : Fr), ¬ tc T q = 0 → g_X12_reads_11 139 (n + 1) (nI r.length) (zb false) h = g_X12_reads_424 139 (g_X12_reads_11 139 n) (nI r.length) 1 h2 → RW rc2 B h2 → rlv h2 (f' :: r) → IN rc2 (f' :: r) → zsm (fun a k => (AR1 B) a k ∨ AR2 a k) h h2 → isW (f' :: r) = true → rc2.length = rc.length + 1 → lst (tc T q) (tn T q) (f :: r) = (0, f' :: r) → (∃ h' fs' rc', lst (tc T q) (tn T q) (f :: r) = (0, fs') ∧ g_X12_reads_11 139 (n + 1) (nI r.length) (zb false) h = g_X12_reads_11 139 n (nI (fs'.length - 1)) (zb (isW fs')) h' ∧ MLw T (tx T q) fs' rc' B h' ∧ zsm (ARr B) h h') := by
      intro rc2 h2 f' hk et C2 V2 P2 w2 x3 x5 x6
      have hlt : q < T.1 := tc0 hq hk
      obtain ⟨h9, e9, K9, w9⟩ := e_424 I (k11 := g_X12_reads_11 139 n) (x1 := nI r.length) (x2 := 1) (K.ar w2) hlt (fs := f' :: r) ⟨lst_gd G x6, C2, V2, P2⟩ (by omega)
      refine ⟨h9, _, rc2, x6, ?_, K9, (w2.mono up).tr w9⟩
      rw [et, e9, x3]; rfl
    by_cases c10 : tc T q = 10
    · left
      obtain ⟨h2, e2, C2, w2⟩ := e_puts C (by have := tc0 hq (by omega); omega) 22
      refine fin _ h2 (fm f, fK f, fA f, fS f, some (pr (fp f) v), none) (by omega) ?_ C2 ⟨fun z => by rw [(w2 _ _ (by unfold AR1; omega)).1]; exact V.1 z, by rw [(w2 _ _ (by unfold AR1; omega)).1]; exact V.2.1, rlv_same V.2.2 (fun a k _ ha => (w2 _ _ (by unfold AR1; omega)).1)⟩ (P.mul h1 hv) (w2.mono (fun a k z => Or.inl z)) rfl (by simp) (by rw [elst, if_pos c10])
      rw [e11, if_pos (by omega)]
      unfold g_X12_reads_206 g_X12_reads_237
      rw [s43, zbind_s, s45, zbind_s]
      simp only [zb_eq0, decide_eq_false_iff_not]
      rw [if_pos (by omega), if_pos (by omega), e2, zbind_s]
    · by_cases c89 : tc T q = 8 ∨ tc T q = 9
      · left
        obtain ⟨h2, e2, C2, w2⟩ := e_puts C (by have := tc0 hq (by omega); omega) (nI (rcd (tc T q)))
        refine fin _ h2 (fm f, fK f, fA f, some (tc T q, co (fS f) (pr (fp f) v)), none, none) (by omega) ?_ C2 ⟨fun z => by rw [(w2 _ _ (by unfold AR1; omega)).1]; exact V.1 z, by rw [(w2 _ _ (by unfold AR1; omega)).1]; exact V.2.1, rlv_same V.2.2 (fun a k _ ha => (w2 _ _ (by unfold AR1; omega)).1)⟩ (P.add h1 hv c89) (w2.mono (fun a k z => Or.inl z)) rfl (by simp) (by rw [elst, if_neg c10, if_pos c89])
        rw [e11, if_pos (by omega)]
        unfold g_X12_reads_206 g_X12_reads_237
        rw [s43, zbind_s, s45, zbind_s]
        simp only [zb_eq0, decide_eq_false_iff_not]
        rcases c89 with d | d
        · have e2' : g_X12_puts h 139 20 = some h2 := by rw [d] at e2; exact e2
          rw [if_neg (fun z => z d), e2', zbind_s]
        · have e2' : g_X12_puts h 139 21 = some h2 := by rw [d] at e2; exact e2
          rw [if_pos (by omega), if_neg (fun z => z d), e2', zbind_s]
      · by_cases c67 : tc T q = 6 ∨ tc T q = 7
        · rw [if_neg (by omega), if_pos c67] at e11
          have e263 : g_X12_reads_263 139 (g_X12_reads_11 139 n) (nI r.length) 0 h = if (fA f).isSome = true then g_X12_reads_304 139 (g_X12_reads_11 139 n) (nI r.length) 0 h else g_X12_reads_289 139 (g_X12_reads_11 139 n) (nI r.length) (nI (rcd (tc T q))) h := by
            unfold g_X12_reads_263
            rw [zin_t (by omega) (by omega), zgu_t, zx_nI (by omega), zr_139_24, V.2.1, s60, zbind_s]
            simp only [zb_eq0, decide_eq_false_iff_not]
            cases (fA f).isSome
            · rw [if_pos rfl, if_neg (show ¬ false = true by decide)]
              rcases c67 with d | d
              · rw [if_neg (fun z => z d), d]; rfl
              · rw [if_pos (by omega), d]; rfl
            · rw [if_neg (show ¬ true = false by decide), if_pos rfl]
          cases hA : (fA f).isSome
          · left
            rw [hA, if_neg (by decide)] at e263
            obtain ⟨h2, e2, C2, w2⟩ := e_puts C (by have := tc0 hq (by omega); omega) (nI (rcd (tc T q)))
            have w3 : zsm (fun a k => a = 153 ∧ k = r.length) h2 (zpi h2 153 r.length 1) := zsm.pi ⟨rfl, rfl⟩
            refine fin _ (zpi h2 153 r.length 1) (fm f, fK f, some (tc T q, co (fS f) (pr (fp f) v)), none, none, none) (by omega) ?_ (C2.same w3 (by omega) (fun k _ => by omega)) ⟨fun z => by rw [(w3 _ _ (by omega)).1, (w2 _ _ (by unfold AR1; omega)).1]; exact V.1 z, by rw [zpi_r, if_pos ⟨rfl, rfl⟩]; rfl, rlv_same V.2.2 (fun a k hk ha => by rw [(w3 _ _ (by omega)).1, (w2 _ _ (by unfold AR1; omega)).1])⟩ (P.tst h1 hv c67) ((w2.mono (fun a k z => Or.inl z)).tr (w3.mono (fun a k z => by unfold AR2; omega))) rfl (by simp) (by rw [elst, if_neg c10, if_neg c89, if_pos c67, hA]; rfl)
            have ev : vp_nar .boolean 1 = 1 := vnar true
            rw [e11, e263]
            unfold g_X12_reads_289
            rw [e2, zbind_s, zin_t (by omega) (by omega), zgu_t, zx_nI (by omega), zr_139_24, ev, zlet_e]
          · right; left
            rw [hA, if_pos rfl, e304, if_neg (by omega), if_neg (by omega), e399 (by omega)] at e263
            exact ⟨1, hf, Or.inl rfl, by rw [elst, if_neg c10, if_neg c89, if_pos c67, hA]; rfl, by rw [e11, e263], kf, wf'⟩
        · rw [if_neg (by omega), if_neg c67] at e11
          by_cases c367 : tc T q = 36 ∨ tc T q = 37
          · left
            obtain ⟨h2, e2, C2, w2⟩ := e_puts C (by have := tc0 hq (by omega); omega) (nI (rcd (tc T q)))
            have w3 : zsm (fun a k => a = 153 ∧ k = r.length) h2 (zpi h2 153 r.length 0) := zsm.pi ⟨rfl, rfl⟩
            refine fin _ (zpi h2 153 r.length 0) (fm f, some (tc T q, fv f v), none, none, none, none) (by omega) ?_ (C2.same w3 (by omega) (fun k _ => by omega)) ⟨fun z => by rw [(w3 _ _ (by omega)).1, (w2 _ _ (by unfold AR1; omega)).1]; exact V.1 z, by rw [zpi_r, if_pos ⟨rfl, rfl⟩]; rfl, rlv_same V.2.2 (fun a k hk ha => by rw [(w3 _ _ (by omega)).1, (w2 _ _ (by unfold AR1; omega)).1])⟩ (P.log h1 hv c367) ((w2.mono (fun a k z => Or.inl z)).tr (w3.mono (fun a k z => by unfold AR2; omega))) rfl (by simp) (by rw [elst, if_neg c10, if_neg c89, if_neg c67, if_pos c367])
            have ev : vp_nar .boolean 0 = 0 := vnar false
            rw [e11, e304, if_pos c367]
            unfold g_X12_reads_324 g_X12_reads_342
            rw [wa, zbind_s]
            simp only [zb_eq0, decide_eq_false_iff_not]
            rcases c367 with d | d
            · have e2' : g_X12_puts h 139 26 = some h2 := by rw [d] at e2; exact e2
              rw [if_neg (fun z => z d), e2', zbind_s, zin_t (by omega) (by omega), zgu_t, zx_nI (by omega), zr_139_24, ev, zlet_e]
            · have e2' : g_X12_puts h 139 27 = some h2 := by rw [d] at e2; exact e2
              rw [if_pos (by omega), e2', zbind_s, zin_t (by omega) (by omega), zgu_t, zx_nI (by omega), zr_139_24, ev, zlet_e]
          · rw [e304, if_neg c367] at e11
            have okf := G.1.1
            by_cases hm2 : fm f = 2
            · have hrn : ¬ r = [] := fun z => by rw [if_pos z] at okf; omega
              have hrl : ¬ r.length = 0 := fun z => hrn (List.length_eq_zero_iff.mp z)
              rw [if_neg hrn] at okf
              by_cases c5 : tc T q = 5
              · left
                have hlt : q < T.1 := tc0 hq (by omega)
                rw [if_pos ⟨c5, hrl⟩] at e11
                have efs : lst (tc T q) (tn T q) (f :: r) = (0, prt (fv f v) r) := by rw [elst, if_neg c10, if_neg c89, if_neg c67, if_neg c367, if_pos ⟨c5, hm2⟩]
                obtain ⟨h2, e2, C2, w2⟩ := e_puts C (by omega) 29
                have V2 : rlv h2 r := rlv_same V.2.2 (fun a k _ ha => (w2 _ _ (by unfold AR1; omega)).1)
                obtain ⟨e3, V3⟩ := e_379 (h := h2) (fv f v) (k11 := g_X12_reads_11 139 n) (x2 := 0) r zfu okf.2.1 (by omega) (by show _ ≤ 4000; omega) V2
                have w2' : zsm (fun a k => (AR1 B) a k ∨ AR2 a k) h h2 := w2.mono (fun a k z => Or.inl z)
                obtain ⟨h9, e9, K9, w9⟩ := e_424 I (k11 := g_X12_reads_11 139 n) (x1 := nI ((prt (fv f v) r).length - 1)) (x2 := 0) (K.ar w2') hlt (fs := prt (fv f v) r) ⟨lst_gd G efs, C2, V3, P.cls hm2 hv⟩ (by simp; omega)
                refine ⟨h9, _, _, efs, ?_, K9, (w2'.mono up).tr w9⟩
                have em : nI r.length + (-1) = nI (r.length - 1) := by
                  have := nI_s1 (a := r.length) (by omega)
                  rw [← this, Int32.sub_eq_add_neg]
                rw [e11, e2, zbind_s, em, e3, e9, isW_prt _ _ okf.2.1 okf.2.2 O.2.2.2]; rfl
              · right; left
                rw [if_neg (fun z => c5 z.1)] at e11
                refine ⟨1, hf, Or.inl rfl, by rw [elst, if_neg c10, if_neg c89, if_neg c67, if_neg c367, if_neg (by omega), if_pos hm2], ?_, kf, wf'⟩
                rw [e11]
                unfold g_X12_reads_399
                rw [if_neg (by rw [zeq_0 (by omega)]; exact hrl), ef']
            · have hm0 : r = [] := by
                by_cases cr : r = []
                · exact cr
                · rw [if_neg cr] at okf; omega
              subst hm0
              rw [if_neg (fun z => z.2 rfl)] at e11
              right; right
              have el : lst (tc T q) (tn T q) [f] = (9, [f]) := by rw [elst, if_neg c10, if_neg c89, if_neg c67, if_neg c367, if_neg (by omega), if_neg hm2]
              by_cases c11 : tc T q = 11
              · obtain ⟨h2, e2, K2, w2⟩ := e_next I K
                refine ⟨h2, f, v, el, rfl, hv, Or.inl ⟨c11, ?_, K2, C.same w2 (by unfold AM1; omega) (fun k _ => by unfold AM1; omega)⟩, w2.mono (fun a k z => Or.inr (Or.inr (Or.inl z)))⟩
                rw [e11]
                unfold g_X12_reads_399
                rw [if_pos (show nI ([] : List Fr).length = 0 from rfl), s59, zbind_s, e2, zbind_s]
                simp only [zb_eq0, decide_eq_false_iff_not]
                rw [if_neg (fun z => z c11)]
              · exact ⟨hf, f, v, el, rfl, hv, Or.inr ⟨c11, by rw [e11, e399 c11], kf⟩, wf'⟩
theorem e_reads11 (I : TI T) : ∀ k q fs rc n h, T.1 - q < k → k ≤ n → MLw T q fs rc B h → (∃ c h', (c = 1 ∨ c = 5) ∧ (lrd T k q fs).1 = c ∧ g_X12_reads_11 139 n (nI (fs.length - 1)) (zb (isW fs)) h = some (false, h') ∧ h'.1 139 9 = nI (c + 16 * (lrd T k q fs).2.1) ∧ zsm (ARr B) h h') ∨ (∃ h' f v rc', (lrd T k q fs).1 = 9 ∧ (lrd T k q fs).2.2 = [f] ∧ fc f = some v ∧ IN rc' [f] ∧ B + rc'.length ≤ (lrd T k q fs).2.1 ∧ ((tc T (lrd T k q fs).2.1 = 11 ∧ g_X12_reads_11 139 n (nI (fs.length - 1)) (zb (isW fs)) h = some (true, h') ∧ MT T (tx T (lrd T k q fs).2.1) h' ∧ RW rc' B h') ∨ (¬ tc T (lrd T k q fs).2.1 = 11 ∧ g_X12_reads_11 139 n (nI (fs.length - 1)) (zb (isW fs)) h = some (false, h') ∧ h'.1 139 9 = nI (1 + 16 * (lrd T k q fs).2.1))) ∧ zsm (ARr B) h h') := by
  have l := I.1
  intro k
  induction k with
  | zero => intro q fs rc n h hk; omega
  | succ k ih =>
    intro q fs rc n h hk hn H
    obtain ⟨n, rfl⟩ : ∃ m, n = m + 1 := ⟨n - 1, by omega⟩
    have hq := H.1.2.1
    have hs : RStp T q B n fs rc h := by
      cases hw : isW fs
      · exact e_modOp I H hw
      · exact e_modPart I H hw
    rcases hs with ⟨h', fs', rc', a1, a2, a3, a4⟩ | ⟨c, h', c1, a1, a2, a3, a4⟩ | ⟨h', f, v, a1, a2, a3, a4, a5⟩
    · have hlt := tc0 hq (lst_pos a1)
      have hx := tx_prop (T := T) hq
      have e : lrd T (k + 1) q fs = lrd T k (tx T q) fs' := by rw [lrd, a1, if_pos rfl]
      rw [e, a2]
      rcases ih (tx T q) fs' rc' n h' (by omega) (by omega) a3 with ⟨c, h2, c1, b1, b2, b3, b4⟩ | ⟨h2, f, v, rc2, b1, b2, b3, b4, b5, b6, b7⟩
      · exact Or.inl ⟨c, h2, c1, b1, b2, b3, a4.tr b4⟩
      · exact Or.inr ⟨h2, f, v, rc2, b1, b2, b3, b4, b5, b6, a4.tr b7⟩
    · have e : lrd T (k + 1) q fs = (c, q, fs) := by rw [lrd, a1, if_neg (by omega)]
      rw [e]
      exact Or.inl ⟨c, h', c1, rfl, a2, a3, a4⟩
    · have e : lrd T (k + 1) q fs = (9, q, fs) := by rw [lrd, a1, if_neg (show ¬ (9 : Nat) = 0 by decide)]
      rw [e]
      exact Or.inr ⟨h', f, v, rc, rfl, a2, a3, by have := H.2.1.2.2.2; rw [a2] at this; exact this, H.2.2, a4, a5⟩
/-- a law, from q on -/
theorem e_readsM (I : TI T) (K : MT T q h) (hb : B ≤ q) (h21 : h.1 139 21 = nI (1000 + B)) : (∃ c h', (c = 1 ∨ c = 5) ∧ (lrl T q).1 = c ∧ g_X12_reads h 139 = some (false, h') ∧ h'.1 139 9 = nI (c + 16 * (lrl T q).2.1) ∧ zsm (ARr B) h h') ∨ (∃ h' f v rc', (lrl T q).1 = 9 ∧ (lrl T q).2.2 = [f] ∧ fc f = some v ∧ IN rc' [f] ∧ B + rc'.length ≤ (lrl T q).2.1 ∧ ((tc T (lrl T q).2.1 = 11 ∧ g_X12_reads h 139 = some (true, h') ∧ MT T (tx T (lrl T q).2.1) h' ∧ RW rc' B h') ∨ (¬ tc T (lrl T q).2.1 = 11 ∧ g_X12_reads h 139 = some (false, h') ∧ h'.1 139 9 = nI (1 + 16 * (lrl T q).2.1))) ∧ zsm (ARr B) h h') := by
  have l := I.1
  have w : zsm (fun a k => a = 153 ∧ k = 0) h (zpi h 153 0 0) := zsm.pi ⟨rfl, rfl⟩
  have w' : zsm (ARr B) h (zpi h 153 0 0) := w.mono (fun a k z => by unfold ARr AR2; omega)
  have H : MLw T q [fr0 0] [] B (zpi h 153 0 0) := by
    refine ⟨K.same w (fun k _ _ => by omega) (fun k => by omega), ⟨gd0, ⟨?_, fun j hj => by cases hj⟩, ⟨fun z => absurd rfl z, ?_, trivial⟩, IN.nil⟩, by simpa using hb⟩
    · rw [(w _ _ (by omega)).1, h21]; rfl
    · show (zpi h 153 0 0).1 153 0 = _
      rw [zpi_r, if_pos ⟨rfl, rfl⟩]; rfl
  have ev : vp_nar .boolean 0 = 0 := vnar false
  have e : g_X12_reads h 139 = g_X12_reads_11 139 zfu (nI ([fr0 0].length - 1)) (zb (isW [fr0 0])) (zpi h 153 0 0) := by
    unfold g_X12_reads
    rw [zil_0 (by decide), zgu_t, zxl_0, zr_139_24, ev, zlet_e]; rfl
  rw [e]
  rcases e_reads11 I 1001 q [fr0 0] [] zfu _ (by omega) (by decide) H with ⟨c, h2, c1, b1, b2, b3, b4⟩ | ⟨h2, f, v, rc2, b1, b2, b3, b4, b5, b6, b7⟩
  · exact Or.inl ⟨c, h2, c1, b1, b2, b3, w'.tr b4⟩
  · exact Or.inr ⟨h2, f, v, rc2, b1, b2, b3, b4, b5, b6, w'.tr b7⟩
end L11
