/-! reading: line by line -/
def AWt : Nat → Nat → Prop := fun a k => AWc a k ∨ (a = 1 ∧ k = 1)
theorem clin_b {β : Type} (h : zH) (F0 F1 : zH → Option β) : ((g_X6_readLine h 13).bind fun v_7 => if (zb v_7.1) = 0 then F0 v_7.2 else ((g_X4_take_c5 v_7.2 13 11).bind fun v_9 => if (zb v_9.1) = 0 then F0 v_9.2 else F1 v_9.2)) = (clin h).bind fun v => if (zb v.1) = 0 then F0 v.2 else F1 v.2 := by
  unfold clin
  cases g_X6_readLine h 13 with
  | none => rfl
  | some v =>
    obtain ⟨b, h1⟩ := v
    cases b with
    | false => rfl
    | true =>
      show ((g_X4_take_c5 h1 13 11).bind fun v_9 => if (zb v_9.1) = 0 then F0 v_9.2 else F1 v_9.2) = ((g_X4_take_c5 h1 13 11).bind fun v_9 => some (v_9.1, v_9.2)).bind fun v => if (zb v.1) = 0 then F0 v.2 else F1 v.2
      rw [zbid]
def RdL (hc hm : zH) (a : Option (Int32 × zH)) (b : Option (Bool × zH)) : Prop :=
  (∃ f hc' hm', 0 < f ∧ f < 20000 ∧ a = some (nI f, hc') ∧ zsm AWt hc hc' ∧ hc'.1 1 1 = 0 ∧ b = some (false, hm') ∧ hm'.1 139 9 = nI f ∧ zsm AWm hm hm') ∨
  (∃ D q hc' hm', q ≤ 1000 ∧ DI D ∧ a = some (0, hc') ∧ DCd D q hc' ∧ zsm AWt hc hc' ∧ hc'.1 1 1 = 0 ∧ b = some (true, hm') ∧ DMd D q hm' ∧ zsm AWm hm hm')
section N12
variable {T : zTp} {q : Nat} {h h' hc hm hc1 hm1 : zH} {D : zDr}
theorem RdL.tr {a : Option (Int32 × zH)} {b : Option (Bool × zH)} (w1 : zsm AWt hc hc1) (w2 : zsm AWm hm hm1) (H : RdL hc1 hm1 a b) : RdL hc hm a b := by
  rcases H with ⟨f, hc', hm', a1, a2, a3, a4, a5, a6, a7, a8⟩ | ⟨D, q, hc', hm', a1, a2, a3, a4, a5, a6, a7, a8, a9⟩
  · exact Or.inl ⟨f, hc', hm', a1, a2, a3, w1.tr a4, a5, a6, a7, w2.tr a8⟩
  · exact Or.inr ⟨D, q, hc', hm', a1, a2, a3, a4, w1.tr a5, a6, a7, a8, w2.tr a9⟩
theorem l_step (I : TI T) (J : DI D) (K1 : CT T q hc) (C : DCd D q hc) (K2 : MT T q hm) (M : DMd D q hm) (ht : ¬ tc T q = 0) : ∃ b, JL T q hc hm (clin hc) b ∧ ∀ n, g_X12_readsAll_109 139 (n + 1) hm = b.bind fun v => g_X12_readsAll_273 139 (g_X12_readsAll_109 139 n) (zb v.1) v.2 := by
  have t0 : ¬ hm.1 139 6 = 0 := by rw [K2.t0]; exact ht
  have s0 := e_isWord I K2 (i := 0) (by decide) 232608281 wl_0
  have s3 := e_isWord I K2 (i := 3) (by decide) 110424740 wl_3
  have s4 := e_isWord I K2 (i := 4) (by decide) 161370 wl_4
  have s5 := e_isWord I K2 (i := 5) (by decide) 1503 wl_5
  have s6 := e_isWord I K2 (i := 6) (by decide) 82408 wl_6
  have s7 := e_isWord I K2 (i := 7) (by decide) 400375 wl_7
  have s8 := e_isWord I K2 (i := 8) (by decide) 4085956 wl_8
  have s9 := e_isWord I K2 (i := 9) (by decide) 2690893 wl_9
  by_cases c0 : tc T q = 12
  · refine ⟨_, l_person I J K1 C K2 M c0, fun n => ?_⟩
    rw [g_X12_readsAll_109, if_neg t0, s0, zbind_s, decide_eq_true (show tc T q = 12 + 0 from c0), zb_t, if_neg (by decide)]
  · rw [decide_eq_false (show ¬ tc T q = 12 + 0 from c0)] at s0
    by_cases c3 : tc T q = 15
    · refine ⟨_, l_grudge I J K1 C K2 M c3, fun n => ?_⟩
      rw [g_X12_readsAll_109, if_neg t0, s0, zbind_s, zb_f, if_pos rfl, s3, zbind_s, decide_eq_true (show tc T q = 12 + 3 from c3), zb_t, if_neg (by decide)]
    · rw [decide_eq_false (show ¬ tc T q = 12 + 3 from c3)] at s3
      by_cases c4 : tc T q = 16
      · refine ⟨_, l_heir I J K1 C K2 M c4, fun n => ?_⟩
        rw [g_X12_readsAll_109, if_neg t0, s0, zbind_s, zb_f, if_pos rfl, s3, zbind_s, zb_f, if_pos rfl, s4, zbind_s, decide_eq_true (show tc T q = 12 + 4 from c4), zb_t, if_neg (by decide)]
      · rw [decide_eq_false (show ¬ tc T q = 12 + 4 from c4)] at s4
        by_cases c5 : tc T q = 17
        · refine ⟨_, l_bar I J K1 C K2 M c5, fun n => ?_⟩
          rw [g_X12_readsAll_109, if_neg t0, s0, zbind_s, zb_f, if_pos rfl, s3, zbind_s, zb_f, if_pos rfl, s4, zbind_s, zb_f, if_pos rfl, s5, zbind_s, decide_eq_true (show tc T q = 12 + 5 from c5), zb_t, if_neg (by decide)]
        · rw [decide_eq_false (show ¬ tc T q = 12 + 5 from c5)] at s5
          by_cases c6 : tc T q = 18
          · refine ⟨_, l_dead I J K1 C K2 M c6, fun n => ?_⟩
            rw [g_X12_readsAll_109, if_neg t0, s0, zbind_s, zb_f, if_pos rfl, s3, zbind_s, zb_f, if_pos rfl, s4, zbind_s, zb_f, if_pos rfl, s5, zbind_s, zb_f, if_pos rfl, s6, zbind_s, decide_eq_true (show tc T q = 12 + 6 from c6), zb_t, if_neg (by decide)]
          · rw [decide_eq_false (show ¬ tc T q = 12 + 6 from c6)] at s6
            by_cases c7 : tc T q = 19
            · refine ⟨_, l_ties I J K1 C K2 M c7, fun n => ?_⟩
              rw [g_X12_readsAll_109, if_neg t0, s0, zbind_s, zb_f, if_pos rfl, s3, zbind_s, zb_f, if_pos rfl, s4, zbind_s, zb_f, if_pos rfl, s5, zbind_s, zb_f, if_pos rfl, s6, zbind_s, zb_f, if_pos rfl, s7, zbind_s, decide_eq_true (show tc T q = 12 + 7 from c7), zb_t, if_neg (by decide)]
            · rw [decide_eq_false (show ¬ tc T q = 12 + 7 from c7)] at s7
              by_cases c8 : tc T q = 20
              · refine ⟨_, l_grows I J K1 C K2 M c8, fun n => ?_⟩
                rw [g_X12_readsAll_109, if_neg t0, s0, zbind_s, zb_f, if_pos rfl, s3, zbind_s, zb_f, if_pos rfl, s4, zbind_s, zb_f, if_pos rfl, s5, zbind_s, zb_f, if_pos rfl, s6, zbind_s, zb_f, if_pos rfl, s7, zbind_s, zb_f, if_pos rfl, s8, zbind_s, decide_eq_true (show tc T q = 12 + 8 from c8), zb_t, if_neg (by decide)]
              · rw [decide_eq_false (show ¬ tc T q = 12 + 8 from c8)] at s8
                by_cases c9 : tc T q = 21
                · refine ⟨_, l_eases I J K1 C K2 M c9, fun n => ?_⟩
                  rw [g_X12_readsAll_109, if_neg t0, s0, zbind_s, zb_f, if_pos rfl, s3, zbind_s, zb_f, if_pos rfl, s4, zbind_s, zb_f, if_pos rfl, s5, zbind_s, zb_f, if_pos rfl, s6, zbind_s, zb_f, if_pos rfl, s7, zbind_s, zb_f, if_pos rfl, s8, zbind_s, zb_f, if_pos rfl, s9, zbind_s, decide_eq_true (show tc T q = 12 + 9 from c9), zb_t, if_neg (by decide)]
                · rw [decide_eq_false (show ¬ tc T q = 12 + 9 from c9)] at s9
                  refine ⟨_, JL.fl I K1.2.1 (by decide) (by decide) zsm.rf (c_fail rd13 K1 1) ?_ zsm.rf (m_fail K2 1), fun n => ?_⟩
                  · rw [rl_k K1, if_neg c0, if_neg c3, if_neg c4, if_neg c5, if_neg c6, if_neg c7, if_neg c8, if_neg c9]; rfl
                  · rw [g_X12_readsAll_109, if_neg t0, s0, zbind_s, zb_f, if_pos rfl, s3, zbind_s, zb_f, if_pos rfl, s4, zbind_s, zb_f, if_pos rfl, s5, zbind_s, zb_f, if_pos rfl, s6, zbind_s, zb_f, if_pos rfl, s7, zbind_s, zb_f, if_pos rfl, s8, zbind_s, zb_f, if_pos rfl, s9, zbind_s, zb_f, if_pos rfl]; rfl
theorem lc_69 {x : Int32} (e : hc.1 13 3 = x) : g_X4_readTape_c5_69 13 hc = some (x, zpi hc 1 1 0) := by
  unfold g_X4_readTape_c5_69
  rw [rd13.1, zlet_e, zpi_r, if_neg (by decide), e]
theorem l_loop (I : TI T) : ∀ k q D hc hm n m i, T.1 - q < k → k ≤ n → k ≤ m → i ≤ q → DI D → CT T q hc → DCd D q hc → MT T q hm → DMd D q hm → hc.1 13 3 = 0 → RdL hc hm (g_X4_readTape_c5_20 13 n 1 (nI i) hc) (g_X12_readsAll_109 139 m hm) := by
  intro k
  have l := I.1
  induction k with
  | zero => intro q D hc hm n m i hk; omega
  | succ k ih =>
    intro q D hc hm n m i hk hn hm' hi J K1 C K2 M e3
    obtain ⟨n, rfl⟩ : ∃ n', n = n' + 1 := ⟨n - 1, by omega⟩
    obtain ⟨m, rfl⟩ : ∃ m', m = m' + 1 := ⟨m - 1, by omega⟩
    have hq := K1.2.1
    by_cases ht : tc T q = 0
    · have w : zsm (fun a k => a = 1 ∧ k = 1) hc (zpi hc 1 1 0) := zsm.pi ⟨rfl, rfl⟩
      refine Or.inr ⟨D, q, zpi hc 1 1 0, hm, by omega, J, ?_, C.same w (by omega) (fun a k _ _ => by omega) (Nat.le_refl _), w.mono (fun a k z => Or.inr z), zpi_s _ _ _ _, ?_, M, zsm.rf⟩
      · rw [g_X4_readTape_c5_20]
        by_cases c : (1000 : Int32) ≤ nI i
        · rw [if_pos c, lc_69 e3]
        · rw [if_neg c, if_neg (by decide), rd13.1, K1.2.2.2.2.1, ht, if_pos (by rfl), lc_69 e3]
      · rw [g_X12_readsAll_109, if_pos (by rw [K2.t0]; exact ht)]
    · have hlt := tc0 hq ht
      have htc := tc_lt T q
      obtain ⟨n, rfl⟩ : ∃ n', n = n' + 1 := ⟨n - 1, by omega⟩
      have ea : g_X4_readTape_c5_20 13 (n + 1 + 1) 1 (nI i) hc = (clin hc).bind fun v => if (zb v.1) = 0 then g_X4_readTape_c5_20 13 (n + 1) 0 (nI i + 1) v.2 else g_X4_readTape_c5_20 13 (n + 1) 1 (nI i + 1) v.2 := by
        rw [g_X4_readTape_c5_20, if_neg (by rw [zleL_1000 (by omega)]; omega), if_neg (by decide), rd13.1, K1.2.2.2.2.1, if_neg (by rw [zeq_0 (by omega)]; exact ht)]
        exact clin_b hc (fun h => g_X4_readTape_c5_20 13 (n + 1) 0 (nI i + 1) h) (fun h => g_X4_readTape_c5_20 13 (n + 1) 1 (nI i + 1) h)
      obtain ⟨b, H, eb⟩ := l_step I J K1 C K2 M ht
      rw [ea, eb m]
      rcases H with ⟨f, hc', hm', a1, a2, a3, a4, a5, a6, a7, a8⟩ | ⟨D', q', hc', hm', a1, a2, a3, a4, a5, a6, a7, a8, a9, a10⟩
      · rw [a3, a6]
        refine Or.inl ⟨f, zpi hc' 1 1 0, hm', a1, a2, ?_, (a5.mono (fun a k z => Or.inl z)).tr (zsm.pi (Or.inr ⟨rfl, rfl⟩)), zpi_s _ _ _ _, ?_, a7, a8⟩
        · show g_X4_readTape_c5_20 13 (n + 1) 0 (nI i + 1) hc' = _
          rw [g_X4_readTape_c5_20]
          by_cases c : (1000 : Int32) ≤ nI i + 1
          · rw [if_pos c, lc_69 a4]
          · rw [if_neg c, if_pos rfl, lc_69 a4]
        · rfl
      · have e3' : hc'.1 13 3 = 0 := (ks_clin I K1 C a3).trans e3
        rw [a3, a7]
        have := ih q' D' hc' hm' (n + 1) m (i + 1) (by omega) (by omega) (by omega) (by omega) a2 a4 a5 a8 a9 e3'
        refine RdL.tr (a6.mono (fun a k z => Or.inl z)) a10 ?_
        show RdL hc' hm' (g_X4_readTape_c5_20 13 (n + 1) 1 (nI i + 1) hc') (g_X12_readsAll_109 139 m hm')
        rw [nI_1]
        exact this
end N12
