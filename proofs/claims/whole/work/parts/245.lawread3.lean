/-! laws: the class reads one: operators, brackets closed, the end -/
def LStp (T : zTp) (q b i n : Nat) (fs : List Fr) (h : zH) : Prop :=
  (∃ h' fs' cc', lst (tc T q) (tn T q) fs = (0, fs') ∧ g_X0_readLaw_22 24 (n + 1) (nI i) h = g_X0_readLaw_22 24 n (nI (i + 1)) h' ∧ CLw T (tx T q) fs' cc' b h' ∧ zsm (ALx b) h h') ∨ (∃ c h', (c = 1 ∨ c = 5) ∧ (lst (tc T q) (tn T q) fs).1 = c ∧ g_X0_readLaw_22 24 (n + 1) (nI i) h = some (nI c, h') ∧ CT T q h' ∧ zsm (ALx b) h h') ∨ (∃ h' f v cc', lst (tc T q) (tn T q) fs = (9, fs) ∧ fs = [f] ∧ fc f = some v ∧ g_X0_readLaw_22 24 (n + 1) (nI i) h = some (0, h') ∧ CT T q h' ∧ zsm (ALx b) h h' ∧ PO cc' (fun e => [fv f v e]) ∧ h'.1 21 7 = nI (b + cc'.length) ∧ (∀ j, j < cc'.length → h'.1 22 (b + j) = cc'.getD j 0) ∧ b + cc'.length ≤ q)
section L8
variable {h h' : zH} {A : Nat → Nat → Prop} {T : zTp} {q b : Nat} {wl : List Nat} {cc : List Int32} {f : Fr} {r fs : List Fr}
theorem e_53 {ys : List Nat} {c : Nat} (H : CW ys cc b h) (hl : ys.length < 32) (ht : h.1 1 2 = nI c) : ∃ h', g_X0_takeOperator_53 24 h = some (0, h') ∧ CW (c :: ys) cc b h' ∧ h'.1 24 6 = zb true ∧ zsm (fun a k => A25 a k ∨ (a = 24 ∧ k = 6)) h h' := by
  obtain ⟨h2, e2, P2, w2⟩ := e_letWait H hl c
  have w3 : zsm (fun a k => a = 24 ∧ k = 6) h2 (zpi h2 24 6 1) := zsm.pi ⟨rfl, rfl⟩
  refine ⟨zpi h2 24 6 1, ?_, P2.same w3 (fun k => by omega) (by omega) (by omega) (fun k => by omega), by rw [zpi_r, if_pos ⟨rfl, rfl⟩]; rfl, (w2.mono (fun a k z => Or.inl z)).tr (w3.mono (fun a k z => Or.inr z))⟩
  unfold g_X0_takeOperator_53
  rw [zr21.2.1, ht, e2, zbind_s, zlet_e]
theorem on_mem {o : Option (Nat × Fn)} {x : Nat} (hx : x ∈ on o) : ∃ g, o = some (x, g) := by
  cases o with
  | none => simp [on] at hx
  | some w => obtain ⟨op, g⟩ := w; simp [on] at hx; exact ⟨g, by rw [hx]⟩
theorem e_lawOp (I : TI T) (H : CLw T q fs cc b h) (hw : isW fs = false) {n i : Nat} (hi : i ≤ 1000) : LStp T q b i n fs h := by
  obtain ⟨K, ⟨G, W0, h4, h5, h6, P⟩, hb⟩ := H
  have hq := K.2.1
  have l := I.1
  have htc := tc_lt T q
  have gl := G.2.1
  have wl := wst_len fs
  cases fs with
  | nil => exact G.1.elim
  | cons f r =>
    obtain ⟨v, hv⟩ : ∃ v, fc f = some v := by
      cases hh : fc f with
      | none => have : (fc f).isNone = false := hw
                rw [hh] at this; cases this
      | some v => exact ⟨v, rfl⟩
    have h1 : ¬ fm f = 1 := G.2.2.2 ⟨v, hv⟩
    have O := G.2.2.1
    obtain ⟨R1, R2, R3⟩ := rel_chain P hv O G.2.1
    have elst : lst (tc T q) (tn T q) (f :: r) = (if tc T q = 10 then (0, (fm f, fK f, fA f, fS f, some (pr (fp f) v), none) :: r) else if tc T q = 8 ∨ tc T q = 9 then (0, (fm f, fK f, fA f, some (tc T q, co (fS f) (pr (fp f) v)), none, none) :: r) else if tc T q = 6 ∨ tc T q = 7 then (if (fA f).isSome then (1, f :: r) else (0, (fm f, fK f, some (tc T q, co (fS f) (pr (fp f) v)), none, none, none) :: r)) else if tc T q = 36 ∨ tc T q = 37 then (0, (fm f, some (tc T q, fv f v), none, none, none, none) :: r) else if tc T q = 5 ∧ fm f = 2 then (0, prt (fv f v) r) else if fm f = 2 then (1, f :: r) else (9, f :: r)) := by
      simp only [lst]; rw [hv]
    simp only [List.length_cons] at gl wl
    have hr : g_X0_rank h (h.1 1 2) = some (nI (rko (tc T q))) := by rw [K.2.2.2.2.1]; exact e_rank (by omega)
    have rk := rko_lt (tc T q)
    have e22 : g_X0_readLaw_22 24 (n + 1) (nI i) h = if rko (tc T q) = 0 then (if opn (f :: r) = 0 then (g_X0_readLaw_92 24 h) else (if tc T q = 5 then ((g_X0_close h 24).bind fun v_11 => g_X0_readLaw_110 24 (g_X0_readLaw_22 24 n) (nI i) 0 v_11) else (g_X0_readLaw_92 24 h))) else ((g_X0_takeOperator h 24).bind fun v_12 => g_X0_readLaw_110 24 (g_X0_readLaw_22 24 n) (nI i) v_12.1 v_12.2) := by
      have hop : opn (f :: r) ≤ 6 := by
        have : ∀ fs : List Fr, opn fs ≤ fs.length := by
          intro fs
          induction fs with
          | nil => simp [opn]
          | cons g s ih => simp only [opn, List.length_cons]; split <;> omega
        have := this (f :: r)
        simp only [List.length_cons] at this
        omega
      rw [g_X0_readLaw_22, if_neg (by rw [zltL_1000 (by omega)]; omega), h6, hw, zb_f, if_pos rfl, zr21.2.1, hr, zbind_s, h4, K.2.2.2.2.1]
      simp only [zleR_0 (show rko (tc T q) < 2147483648 by omega), zleR_0 (show opn (f :: r) < 2147483648 by omega), zeq_5 (show tc T q < 2147483648 by omega), Nat.le_zero]
    have opK : ∀ x ∈ on (fK f), x = 36 ∨ x = 37 := fun x hx => by obtain ⟨g, e⟩ := on_mem hx; exact O.1 x g e
    have opA : ∀ x ∈ on (fA f), x = 6 ∨ x = 7 := fun x hx => by obtain ⟨g, e⟩ := on_mem hx; exact O.2.1 x g e
    have opS : ∀ x ∈ on (fS f), x = 8 ∨ x = 9 := fun x hx => by obtain ⟨g, e⟩ := on_mem hx; exact O.2.2.1 x g e
    have opP : ∀ x ∈ on (po (fp f)), x = 10 := fun x hx => by obtain ⟨g, e⟩ := on_mem hx; exact po_op x g e
    have r36 : rko 36 = 1 ∧ rko 37 = 1 ∧ rko 6 = 2 ∧ rko 7 = 2 ∧ rko 8 = 3 ∧ rko 9 = 3 ∧ rko 10 = 4 := by decide
    obtain ⟨k36, k37, k6, k7, k8, k9, k10⟩ := r36
    have hwl : (wst (f :: r)).length = (on (po (fp f))).length + ((on (fS f)).length + ((on (fA f)).length + ((on (fK f)).length + (mkl f ++ wst r).length))) := by
      simp only [wst, List.length_append]
    -- the end of each operator
    have fin : ∀ (ys : List Nat) (cc2 : List Int32) (h2 : zH) (f' : Fr), ¬ rko (tc T q) = 0 → g_X0_takeOperator h 24 = g_X0_takeOperator_53 24 h2 → CW ys cc2 b h2 → zsm (fun a k => (A22 b) a k ∨ A25 a k) h h2 → wst (f' :: r) = tc T q :: ys → opn (f' :: r) = opn (f :: r) → isW (f' :: r) = true → PO cc2 (ost (f' :: r)) → cc2.length + ys.length = cc.length + (wst (f :: r)).length → lst (tc T q) (tn T q) (f :: r) = (0, f' :: r) → LStp T q b i n (f :: r) h := by
      intro ys cc2 h2 f' hk et C2 w2 x1 x2 x3 x4 x5 x6
      have hlt : q < T.1 := tc0 hq (fun z => by rw [z] at hk; exact hk (by decide))
      have w2' : zsm (ALr b) h h2 := w2.mono (fun a k z => ALr1 z)
      have K2 := K.lr w2'
      have wl' := wst_len (f' :: r)
      rw [x1] at wl'
      simp only [List.length_cons] at wl'
      obtain ⟨h3, e3, C3, d3, w3⟩ := e_53 (c := tc T q) C2 (by omega) K2.2.2.2.2.1
      have w3' : zsm (ALr b) h2 h3 := w3.mono (fun a k z => by unfold A25 at z; unfold ALr; omega)
      have gd' := lst_gd G x6
      have hm : CLm (f' :: r) cc2 b h3 := by
        refine ⟨gd', by rw [x1]; exact C3, ?_, ?_, by rw [x3]; exact d3, x4⟩
        · rw [(w3 _ _ (by unfold A25; omega)).1, (w2 _ _ (by unfold A22 A25; omega)).1, h4, x2]
        · rw [(w3 _ _ (by unfold A25; omega)).1, (w2 _ _ (by unfold A22 A25; omega)).1, h5]; rfl
      obtain ⟨h9, e9, K9, w9⟩ := e_110 I (k22 := g_X0_readLaw_22 24 n) (i := i) (K2.lr w3') hlt hm (by rw [x1, List.length_cons]; omega)
      refine Or.inl ⟨h9, _, cc2, x6, ?_, K9, ((w2'.tr w3').mono (fun a k z => Or.inl z)).tr w9⟩
      rw [e22, if_neg hk, et, e3, zbind_s]; exact e9
    have eto : g_X0_takeOperator h 24 = if rko (tc T q) = 2 then ((g_X0_release h 24 3).bind fun v_4 => if (v_4.1 24 3) ≤ 0 then (g_X0_takeOperator_53 24 v_4) else (zgu (zin ((v_4.1 24 3) - 1) 32) <| (g_X0_rank v_4 (v_4.1 25 (zx ((v_4.1 24 3) - 1)))).bind fun v_7 => if v_7 = 2 then (some (1, v_4)) else (g_X0_takeOperator_53 24 v_4))) else ((g_X0_release h 24 (nI (rko (tc T q)))).bind fun v_3 => g_X0_takeOperator_53 24 v_3) := by
      unfold g_X0_takeOperator
      rw [zr21.2.1, zr21.2.2.2, hr, zbind_s]
      simp only [zeq_2 (show rko (tc T q) < 2147483648 by omega)]
    have W1 : CW (on (po (fp f)) ++ (on (fS f) ++ (on (fA f) ++ (on (fK f) ++ (mkl f ++ wst r))))) cc b h := W0
    have W2 : CW ((on (po (fp f)) ++ on (fS f)) ++ (on (fA f) ++ (on (fK f) ++ (mkl f ++ wst r)))) cc b h := by rw [List.append_assoc]; exact W0
    have W3 : CW ((on (po (fp f)) ++ (on (fS f) ++ (on (fA f) ++ on (fK f)))) ++ (mkl f ++ wst r)) cc b h := by simp only [List.append_assoc]; simpa only [List.append_assoc] using W1
    by_cases c10 : tc T q = 10
    · have rl : rko (tc T q) = 4 := by rw [c10]; exact k10
      obtain ⟨h2, e2, C2, w2⟩ := e_rel (r := 4) (by decide) _ _ cc zfu h W1 (by simp only [List.length_append] at hwl ⊢; omega) (by omega) (by show _ < 4000; have := on_len (po (fp f)); omega) (fun x hx => by rw [opP x hx]; decide) (HP.app (HP.on (fun op g z => by rcases O.2.2.1 op g z with e | e <;> rw [e] <;> decide)) (HP.app (HP.on (fun op g z => by rcases O.2.1 op g z with e | e <;> rw [e] <;> decide)) (HP.app (HP.on (fun op g z => by rcases O.1 op g z with e | e <;> rw [e] <;> decide)) (HP.mk (f := f) G.1 h1 (by decide)))))
      refine fin _ _ h2 (fm f, fK f, fA f, fS f, some (pr (fp f) v), none) (by rw [rl]; decide) ?_ C2 w2 ?_ rfl rfl ?_ ?_ (by rw [elst, if_pos c10])
      · rw [eto, if_neg (by omega), rl]
        unfold g_X0_release
        rw [e2, zbind_s]
      · rw [c10]; rfl
      · have : ost ((fm f, fK f, fA f, fS f, some (pr (fp f) v), none) :: r) = (fun e => pr (fp f) v e :: (ov (fS f) e ++ (ov (fA f) e ++ (ov (fK f) e ++ ost r e)))) := by
          funext e
          simp only [ost, ofr, pv, po, ov, List.append_assoc, List.cons_append, List.nil_append]
        rw [this]; exact R1
      · simp only [List.length_append, List.length_map] at hwl ⊢; omega
    · by_cases c89 : tc T q = 8 ∨ tc T q = 9
      · have rl : rko (tc T q) = 3 := by rcases c89 with e | e <;> rw [e] <;> decide
        obtain ⟨h2, e2, C2, w2⟩ := e_rel (r := 3) (by decide) _ _ cc zfu h W2 (by simp only [List.length_append] at hwl ⊢; omega) (by simp only [List.length_append] at hwl ⊢; omega) (by show _ < 4000; simp only [List.length_append] at hwl ⊢; omega) (fun x hx => by
          rcases List.mem_append.mp hx with hx | hx
          · rw [opP x hx]; decide
          · rcases opS x hx with e | e <;> rw [e] <;> decide) (HP.app (HP.on (fun op g z => by rcases O.2.1 op g z with e | e <;> rw [e] <;> decide)) (HP.app (HP.on (fun op g z => by rcases O.1 op g z with e | e <;> rw [e] <;> decide)) (HP.mk (f := f) G.1 h1 (by decide))))
        refine fin _ _ h2 (fm f, fK f, fA f, some (tc T q, co (fS f) (pr (fp f) v)), none, none) (by rw [rl]; decide) ?_ C2 w2 rfl rfl rfl ?_ ?_ (by rw [elst, if_neg c10, if_pos c89])
        · rw [eto, if_neg (by omega), rl]
          unfold g_X0_release
          rw [e2, zbind_s]
        · have : ost ((fm f, fK f, fA f, some (tc T q, co (fS f) (pr (fp f) v)), none, none) :: r) = (fun e => co (fS f) (pr (fp f) v) e :: (ov (fA f) e ++ (ov (fK f) e ++ ost r e))) := by
            funext e
            simp only [ost, ofr, pv, po, ov, List.append_assoc, List.cons_append, List.nil_append]
          rw [this]; exact R2
        · simp only [List.length_append, List.length_map] at hwl ⊢; omega
      · by_cases c67 : tc T q = 6 ∨ tc T q = 7
        · have rl : rko (tc T q) = 2 := by rcases c67 with e | e <;> rw [e] <;> decide
          obtain ⟨h2, e2, C2, w2⟩ := e_rel (r := 3) (by decide) _ _ cc zfu h W2 (by simp only [List.length_append] at hwl ⊢; omega) (by simp only [List.length_append] at hwl ⊢; omega) (by show _ < 4000; simp only [List.length_append] at hwl ⊢; omega) (fun x hx => by
            rcases List.mem_append.mp hx with hx | hx
            · rw [opP x hx]; decide
            · rcases opS x hx with e | e <;> rw [e] <;> decide) (HP.app (HP.on (fun op g z => by rcases O.2.1 op g z with e | e <;> rw [e] <;> decide)) (HP.app (HP.on (fun op g z => by rcases O.1 op g z with e | e <;> rw [e] <;> decide)) (HP.mk (f := f) G.1 h1 (by decide))))
          have w2' : zsm (ALr b) h h2 := w2.mono (fun a k z => ALr1 z)
          have e2' : g_X0_release h 24 3 = some h2 := e2
          cases hA : fA f with
          | some w =>
            obtain ⟨op, g⟩ := w
            rw [hA] at C2
            have C2' : CW (op :: (on (fK f) ++ (mkl f ++ wst r))) (cc ++ List.map nI (on (po (fp f)) ++ on (fS f))) b h2 := C2
            have hop := O.2.1 op g hA
            have hyl : (on (fK f) ++ (mkl f ++ wst r)).length ≤ 30 := by simp only [List.length_append] at hwl ⊢; omega
            have hw3 : h2.1 24 3 = nI ((on (fK f) ++ (mkl f ++ wst r)).length + 1) := C2'.2.1
            have hrd : h2.1 25 (on (fK f) ++ (mkl f ++ wst r)).length = nI op := C2'.1.1
            generalize (on (fK f) ++ (mkl f ++ wst r)).length = m at hyl hw3 hrd
            refine Or.inr (Or.inl ⟨1, h2, Or.inl rfl, by rw [elst, if_neg c10, if_neg c89, if_pos c67, hA]; rfl, ?_, K.lr w2', w2'.mono (fun a k z => Or.inl z)⟩)
            have et : g_X0_takeOperator h 24 = some (1, h2) := by
              have rkop : rko op = 2 := by rcases hop with e | e <;> rw [e] <;> decide
              rw [eto, if_pos rl, e2', zbind_s, hw3, if_neg (by rw [zleR_0 (by omega)]; omega), nI_s1 (by omega), show m + 1 - 1 = m by omega, zin_t (by omega) (by omega), zgu_t, zx_nI (by omega), hrd, e_rank (by omega), zbind_s, rkop, if_pos (show nI 2 = 2 from rfl)]
            rw [e22, if_neg (by omega), et, zbind_s]
            unfold g_X0_readLaw_110
            rw [if_neg (show ¬ (1 : Int32) = 0 by decide)]; rfl
          | none =>
            rw [hA] at C2 R2
            have C2' : CW (on (fK f) ++ (mkl f ++ wst r)) (cc ++ List.map nI (on (po (fp f)) ++ on (fS f))) b h2 := C2
            have hyl : (on (fK f) ++ (mkl f ++ wst r)).length ≤ 30 := by simp only [List.length_append] at hwl ⊢; omega
            have hd : HP (fun y => y < 100 ∧ ¬ rko y = 2) (on (fK f) ++ (mkl f ++ wst r)) := HP.app (HP.on (fun op g z => by rcases O.1 op g z with e | e <;> rw [e] <;> decide)) (HP.mk (f := f) G.1 h1 (by decide))
            refine fin (on (fK f) ++ (mkl f ++ wst r)) _ h2 (fm f, fK f, some (tc T q, co (fS f) (pr (fp f) v)), none, none, none) (by rw [rl]; decide) ?_ C2' w2 rfl rfl rfl ?_ ?_ (by rw [elst, if_neg c10, if_neg c89, if_pos c67, hA]; rfl)
            · rw [eto, if_pos rl, e2', zbind_s, C2'.2.1]
              cases hy : (on (fK f) ++ (mkl f ++ wst r)) with
              | nil => rw [if_pos (by decide)]
              | cons y t =>
                rw [hy] at hyl C2'
                obtain ⟨y1, y2⟩ := hd y t hy
                have hrd : h2.1 25 t.length = nI y := C2'.1.1
                have rky := rko_lt y
                simp only [List.length_cons] at hyl ⊢
                rw [if_neg (by rw [zleR_0 (by omega)]; omega), nI_s1 (by omega), show t.length + 1 - 1 = t.length by omega, zin_t (by omega) (by omega), zgu_t, zx_nI (by omega), hrd, e_rank y1, zbind_s, if_neg (by rw [zeq_2 (by omega)]; exact y2)]
            · have : ost ((fm f, fK f, some (tc T q, co (fS f) (pr (fp f) v)), none, none, none) :: r) = (fun e => co (fS f) (pr (fp f) v) e :: (ov none e ++ (ov (fK f) e ++ ost r e))) := by
                funext e
                simp only [ost, ofr, pv, po, ov, List.append_assoc, List.cons_append, List.nil_append]
              rw [this]; exact R2
            · rw [hA] at hwl
              simp only [List.length_append, List.length_map, on, List.length_nil] at hwl ⊢; omega
        · by_cases c367 : tc T q = 36 ∨ tc T q = 37
          · have rl : rko (tc T q) = 1 := by rcases c367 with e | e <;> rw [e] <;> decide
            obtain ⟨h2, e2, C2, w2⟩ := e_rel (r := 1) (by decide) _ _ cc zfu h W3 (by simp only [List.length_append] at hwl ⊢; omega) (by simp only [List.length_append] at hwl ⊢; omega) (by show _ < 4000; simp only [List.length_append] at hwl ⊢; omega) (fun x hx => by
              rcases List.mem_append.mp hx with hx | hx
              · rw [opP x hx]; decide
              · rcases List.mem_append.mp hx with hx | hx
                · rcases opS x hx with e | e <;> rw [e] <;> decide
                · rcases List.mem_append.mp hx with hx | hx
                  · rcases opA x hx with e | e <;> rw [e] <;> decide
                  · rcases opK x hx with e | e <;> rw [e] <;> decide) (HP.mk (f := f) G.1 h1 (by decide))
            refine fin _ _ h2 (fm f, some (tc T q, fv f v), none, none, none, none) (by rw [rl]; decide) ?_ C2 w2 rfl rfl rfl ?_ ?_ (by rw [elst, if_neg c10, if_neg c89, if_neg c67, if_pos c367])
            · rw [eto, if_neg (by omega), rl]
              unfold g_X0_release
              rw [e2, zbind_s]
            · have : ost ((fm f, some (tc T q, fv f v), none, none, none, none) :: r) = (fun e => fv f v e :: ost r e) := by
                funext e
                simp only [ost, ofr, pv, po, ov, List.append_assoc, List.cons_append, List.nil_append]
              rw [this]; exact R3
            · simp only [List.length_append, List.length_map] at hwl ⊢; omega
          · -- no operator
            have rl : rko (tc T q) = 0 := by
              unfold rko
              rw [if_neg (by omega), if_neg (by omega), if_neg (by omega), if_neg (by omega), if_neg (by omega), if_neg (by omega), if_neg (by omega)]
            obtain ⟨h2, e2, C2, w2⟩ := e_rel (r := 0) (by decide) _ _ cc zfu h W3 (by simp only [List.length_append] at hwl ⊢; omega) (by simp only [List.length_append] at hwl ⊢; omega) (by show _ < 4000; simp only [List.length_append] at hwl ⊢; omega) (fun x hx => by
              rcases List.mem_append.mp hx with hx | hx
              · rw [opP x hx]; decide
              · rcases List.mem_append.mp hx with hx | hx
                · rcases opS x hx with e | e <;> rw [e] <;> decide
                · rcases List.mem_append.mp hx with hx | hx
                  · rcases opA x hx with e | e <;> rw [e] <;> decide
                  · rcases opK x hx with e | e <;> rw [e] <;> decide) (HP.mk (f := f) G.1 h1 (by decide))
            have e2' : g_X0_release h 24 0 = some h2 := e2
            have w2' : zsm (ALr b) h h2 := w2.mono (fun a k z => ALr1 z)
            have r4 : h2.1 24 4 = nI (opn (f :: r)) := by rw [(w2 _ _ (by unfold A22 A25; omega)).1]; exact h4
            have r5 : h2.1 24 5 = nI r.length := by rw [(w2 _ _ (by unfold A22 A25; omega)).1]; exact h5
            have okf := G.1.1
            have hop6 : opn (f :: r) ≤ 6 := by
              have : ∀ fs : List Fr, opn fs ≤ fs.length := by
                intro fs
                induction fs with
                | nil => simp [opn]
                | cons g s ih => simp only [opn, List.length_cons]; split <;> omega
              have := this (f :: r)
              simp only [List.length_cons] at this
              omega
            by_cases hm2 : fm f = 2
            · have hrn : ¬ r = [] := fun z => by rw [if_pos z] at okf; omega
              rw [if_neg hrn] at okf
              have ho : opn (f :: r) = 1 + opn r := by simp only [opn]; rw [if_pos hm2]
              by_cases c5 : tc T q = 5
              · -- a bracket is closed
                have hlt : q < T.1 := tc0 hq (by omega)
                have ems : mkl f ++ wst r = 4 :: wst r := by unfold mkl; rw [if_neg h1, if_pos hm2]; rfl
                rw [ems] at C2 hwl
                have hw3 : h2.1 24 3 = nI ((wst r).length + 1) := C2.2.1
                obtain ⟨P3, w3⟩ := C2.popd
                have hrl : 1 ≤ r.length := by
                  cases r with
                  | nil => exact absurd rfl hrn
                  | cons _ _ => simp
                have w4 : zsm (fun a k => a = 24 ∧ (k = 4 ∨ k = 5)) (zpi h2 24 3 (nI (wst r).length)) (zpi (zpi (zpi h2 24 3 (nI (wst r).length)) 24 4 (nI (opn r))) 24 5 (nI (r.length - 1))) := (zsm.pi ⟨rfl, Or.inl rfl⟩).tr (zsm.pi ⟨rfl, Or.inr rfl⟩)
                have P4 := P3.same w4 (fun k => by omega) (by omega) (by omega) (fun k => by omega)
                have hlc : (cc ++ List.map nI (on (po (fp f)) ++ (on (fS f) ++ (on (fA f) ++ on (fK f))))).length + (wst r).length + 1 = cc.length + (wst (f :: r)).length := by
                  simp only [List.length_append, List.length_map, List.length_cons] at hwl ⊢; omega
                obtain ⟨h5', cc5, e5, M5, len5, w5⟩ := e_endPart (v := fv f v) (by omega) okf.2.1 okf.2.2 O.2.2.2 P4 (by omega) (by rw [zpi_r, if_neg (by omega), zpi_r, if_pos ⟨rfl, rfl⟩]) (by rw [zpi_r, if_pos ⟨rfl, rfl⟩]) R3
                have w25 : zsm (ALr b) h h5' := ((w2'.tr (w3.mono (fun a k z => ALr1 (Or.inr z)))).tr (w4.mono (fun a k z => by unfold ALr; omega))).tr w5
                obtain ⟨h9, e9, K9, w9⟩ := e_110 I (k22 := g_X0_readLaw_22 24 n) (i := i) (K.lr w25) hlt M5 (by omega)
                refine Or.inl ⟨h9, _, cc5, by rw [elst, if_neg c10, if_neg c89, if_neg c67, if_neg c367, if_pos ⟨c5, hm2⟩], ?_, K9, (w25.mono (fun a k z => Or.inl z)).tr w9⟩
                have ecl : g_X0_close h 24 = some h5' := by
                  have s1 : (zpi h2 24 3 (nI (wst r).length)).1 24 4 - 1 = nI (opn r) := by rw [zpi_r, if_neg (by omega), r4, ho, nI_s1 (by omega)]; congr 1; omega
                  have s2 : (zpi (zpi h2 24 3 (nI (wst r).length)) 24 4 (nI (opn r))).1 24 5 - 1 = nI (r.length - 1) := by rw [zpi_r, if_neg (by omega), zpi_r, if_neg (by omega), r5, nI_s1 (by omega)]
                  unfold g_X0_close g_X0_close_22
                  rw [e2', zbind_s, hw3, if_neg (by rw [zleR_0 (by omega)]; omega), nI_s1 (by omega), show (wst r).length + 1 - 1 = (wst r).length by omega, zlet_e, s1, zlet_e, s2, zlet_e, e5, zbind_s]
                rw [e22, if_pos rl, if_neg (by omega), if_pos c5, ecl, zbind_s]; exact e9
              · refine Or.inr (Or.inl ⟨1, h2, Or.inl rfl, by rw [elst, if_neg c10, if_neg c89, if_neg c67, if_neg c367, if_neg (by omega), if_pos hm2], ?_, K.lr w2', w2'.mono (fun a k z => Or.inl z)⟩)
                rw [e22, if_pos rl, if_neg (by omega), if_neg c5]
                unfold g_X0_readLaw_92
                rw [e2', zbind_s, r4, if_neg (by rw [zleR_0 (by omega)]; omega)]; rfl
            · have hm0 : r = [] := by
                by_cases cr : r = []
                · exact cr
                · rw [if_neg cr] at okf; omega
              subst hm0
              have ho : opn [f] = 0 := by simp only [opn]; rw [if_neg hm2]
              refine Or.inr (Or.inr ⟨h2, f, v, _, by rw [elst, if_neg c10, if_neg c89, if_neg c67, if_neg c367, if_neg (by omega), if_neg hm2], rfl, hv, ?_, K.lr w2', w2'.mono (fun a k z => Or.inl z), R3, C2.2.2.1, C2.2.2.2, ?_⟩)
              · rw [e22, if_pos rl, if_pos ho]
                unfold g_X0_readLaw_92
                rw [e2', zbind_s, r4, ho, if_pos (by decide)]
              · simp only [List.length_append, List.length_map] at hwl ⊢; omega
end L8
