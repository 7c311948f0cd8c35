/-! reading: grudges, heirs -/
section N7
variable {T : zTp} {q q1 : Nat} {h h' hc hm hc1 hm1 : zH} {A : Nat → Nat → Prop} {D : zDr}
theorem l_grudge (I : TI T) (J : DI D) (K1 : CT T q hc) (C : DCd D q hc) (K2 : MT T q hm) (M : DMd D q hm) (ht : tc T q = 15) : JL T q hc hm (clin hc) (g_X12_readsGrudge hm 139) := by
  have hq := K1.2.1
  have l := I.1
  have hlt := tc0 hq (by omega)
  have tp := tx_prop (T := T) hq
  have tp2 := tx_prop (T := T) tp.2.1
  have e0 : g_X6_readLine hc 13 = g_X6_readGrudge hc 13 := by rw [rl_k K1, ht]; rfl
  have z14 : zR 14 5 = 20 := by decide +kernel
  have hn := J.1.1
  obtain ⟨h1, e1, X1, w1⟩ := e_look I K1
  obtain ⟨g1, f1, Y1, v1⟩ := e_next I K2
  have u1 : zsm AWc hc h1 := w1.mono (fun a k z => av_wc (Or.inl z))
  have t1 : zsm AWm hm g1 := v1.mono (fun a k z => av_wm (Or.inl z))
  have C1 : DCd D (tx T q) h1 := C.av (w1.mono (fun a k z => Or.inl z)) tp.1
  have M1 : DMd D (tx T q) g1 := M.av (v1.mono (fun a k z => Or.inl z)) tp.1
  have ec : g_X6_readGrudge hc 13 = (g_X4_findPerson_c5 h1 13).bind fun v_2 => if (zb v_2.1) = 0 then (some (false, v_2.2)) else ((g_X8_lookAtNext v_2.2 1).bind fun v_4 => (g_X4_findOther_c5 v_4 13 (v_2.2.1 13 2)).bind fun v_5 => if (zb v_5.1) = 0 then (some (false, v_5.2)) else (zlet (((v_2.2.1 13 2) * 7) + (v_5.2.1 13 2)) fun v_7 => zgu (zin v_7 49) <| if (v_5.2.1 20 (zx v_7)) = (-1) then ((g_X8_lookAtNext v_5.2 1).bind fun v_10 => (g_X4_takeNumber_c5 v_10 13 0 9).bind fun v_11 => if (zb v_11.1) = 0 then (some (false, v_11.2)) else (zgu (zin v_7 49) <| zlet (zpi v_11.2 20 (zx v_7) (v_11.2.1 13 2)) fun h_14 => some (true, h_14))) else ((g_X4_fail_c5 v_5.2 13 3).bind fun v_15 => some (v_15.1, v_15.2)))) := by
    unfold g_X6_readGrudge
    rw [rd13.1, rd13.2.1, z14, e1, zbind_s]
  have em : g_X12_readsGrudge hm 139 = (g_X12_needsTwo g1 139 1).bind fun v_2 => if (zb v_2.1) = 0 then (some (false, v_2.2)) else (zlet ((7 * (v_2.2.1 139 36)) + (v_2.2.1 139 35)) fun v_4 => zgu (zin v_4 49) <| if (v_2.2.1 148 (zx v_4)) = 0 then ((g_X12_nextToken v_2.2 139).bind fun v_7 => (g_X12_needsNumber v_7 139 0 9).bind fun v_8 => if (zb v_8.1) = 0 then (some (false, v_8.2)) else (zgu (zin v_4 49) <| zlet (zpi v_8.2 148 (zx v_4) (vp_nar .boolean 1)) fun h_11 => zgu (zin (49 + v_4) 98) <| zlet (zpi h_11 147 (zx (49 + v_4)) (h_11.1 139 35)) fun h_13 => (g_X12_closes h_13 139).bind fun v_14 => some (v_14.1, v_14.2))) else ((g_X12_fails v_2.2 139 3).bind fun v_15 => some (v_15.1, v_15.2))) := by
    unfold g_X12_readsGrudge
    rw [zr_139_17, zr_139_16, f1, zbind_s]
  have m2 := m_two I Y1 (M1.pn J)
  have m2 : MF (tx T q) 1 g1 (g_X12_needsTwo g1 139 1) ∧ tnm T (tx T q) = false ∨ _ := m2
  rcases m2 with ⟨x2, hx⟩ | ⟨x2, hx, hf⟩ | ⟨p, hx, hf, m2⟩
  · exact JL.fl I tp.2.1 (by decide) (by decide) u1 ((c_find1 rd13 X1 hx).go (fun h' z => by rw [ec, z]; rfl)) e0 t1 (x2.go (fun h' z => by rw [em, z]; rfl))
  · exact JL.fl I tp.2.1 (by decide) (by decide) u1 ((c_find2 rd13 I X1 (C1.pn J) hx hf).go (fun h' z => by rw [ec, z]; rfl)) e0 t1 (x2.go (fun h' z => by
      have z : g_X12_needsTwo g1 139 1 = _ := z
      rw [em, z]; rfl))
  · obtain ⟨h2, e2, X2, k2, w2⟩ := c_findY rd13 I X1 (C1.pn J) hx hf
    obtain ⟨h3, e3, X3, w3⟩ := e_look I X2
    have hp := fnd_lt hf
    have k2' : h2.1 13 2 = nI p := k2
    have w3' : zsm (AV 13) h1 h3 := (w2.mono (fun a k z => Or.inr (by omega))).tr (w3.mono (fun a k z => Or.inl z))
    have C3 : DCd D (tx T (tx T q)) h3 := C1.av w3' tp2.1
    have u3 : zsm AWc hc h3 := u1.tr (w3'.mono (fun a k z => av_wc z))
    have ec2 : g_X6_readGrudge hc 13 = (g_X4_findOther_c5 h3 13 (nI p)).bind fun v_5 => if (zb v_5.1) = 0 then (some (false, v_5.2)) else (zlet ((nI p * 7) + (v_5.2.1 13 2)) fun v_7 => zgu (zin v_7 49) <| if (v_5.2.1 20 (zx v_7)) = (-1) then ((g_X8_lookAtNext v_5.2 1).bind fun v_10 => (g_X4_takeNumber_c5 v_10 13 0 9).bind fun v_11 => if (zb v_11.1) = 0 then (some (false, v_11.2)) else (zgu (zin v_7 49) <| zlet (zpi v_11.2 20 (zx v_7) (v_11.2.1 13 2)) fun h_14 => some (true, h_14))) else ((g_X4_fail_c5 v_5.2 13 3).bind fun v_15 => some (v_15.1, v_15.2))) := by
      rw [ec, e2, zbind_s, zb_t, if_neg (by decide), e3, zbind_s, k2']
    rcases m2 with ⟨x2, hx2⟩ | ⟨x2, hx2, hf2⟩ | ⟨x2, hx2, hf2⟩ | ⟨p2, g3, hx2, hf2, hne, f3, Y3, j36, j35, v3⟩
    · exact JL.fl I tp2.2.1 (by decide) (by decide) u3 ((c_other1 rd13 X3 hx2 (nI p)).go (fun h' z => by rw [ec2, z]; rfl)) e0 t1 (x2.go (fun h' z => by
        have z : g_X12_needsTwo g1 139 1 = _ := z
        rw [em, z]; rfl))
    · exact JL.fl I tp2.2.1 (by decide) (by decide) u3 ((c_other2 rd13 I X3 (C3.pn J) hx2 hf2 (nI p)).go (fun h' z => by rw [ec2, z]; rfl)) e0 t1 (x2.go (fun h' z => by
        have z : g_X12_needsTwo g1 139 1 = _ := z
        rw [em, z]; rfl))
    · exact JL.fl I tp2.2.1 (by decide) (by decide) u3 ((c_other3 rd13 I X3 (C3.pn J) hx2 hf2).go (fun h' z => by rw [ec2, z]; rfl)) e0 t1 (x2.go (fun h' z => by
        have z : g_X12_needsTwo g1 139 1 = _ := z
        rw [em, z]; rfl))
    · have hp2 := fnd_lt hf2
      have f3 : g_X12_needsTwo g1 139 1 = some (true, g3) := f3
      obtain ⟨h4, e4, X4, k4, w4⟩ := c_otherY rd13 I X3 (C3.pn J) hx2 hf2 (show p < 7 by omega) hne
      have w4' : zsm (AV 13) h3 h4 := w4.mono (fun a k z => Or.inr (by omega))
      have C4 : DCd D (tx T (tx T q)) h4 := C3.av w4' (Nat.le_refl _)
      have M3 : DMd D (tx T (tx T q)) g3 := M1.av v3 tp2.1
      have u4 : zsm AWc hc h4 := u3.tr (w4'.mono (fun a k z => av_wc z))
      have t3 : zsm AWm hm g3 := t1.tr (v3.mono (fun a k z => av_wm z))
      have hix : 7 * p + p2 < 49 := by omega
      have i1 : (nI p * 7 + nI p2) = nI (7 * p + p2) := by rw [zmR_7, nI_add, Nat.mul_comm]
      have i2 : (7 * nI p + nI p2) = nI (7 * p + p2) := by rw [zmL_7, nI_add]
      generalize hk : 7 * p + p2 = k at hix i1 i2
      have cg := C4.2.1 k hix
      obtain ⟨mg1, mg2⟩ := M3.2.1 k hix
      have ec3 : g_X6_readGrudge hc 13 = if (dgr D k) = none then ((g_X8_lookAtNext h4 1).bind fun v_10 => (g_X4_takeNumber_c5 v_10 13 0 9).bind fun v_11 => if (zb v_11.1) = 0 then (some (false, v_11.2)) else (some (true, zpi v_11.2 20 k (v_11.2.1 13 2)))) else ((g_X4_fail_c5 h4 13 3).bind fun v_15 => some (v_15.1, v_15.2)) := by
        rw [ec2, e4, zbind_s, zb_t, if_neg (by decide), k4, i1, zlet_e, zin_t hix (by omega), zgu_t, zx_nI (by omega), cg]
        cases hg : dgr D k with
        | none => rw [zo_none, if_pos rfl, if_pos rfl]; rfl
        | some x => rw [zo_some, if_neg (by have := J.2.2.2 k x hg; rw [znI_neg (by omega)]; exact id), if_neg (by simp)]
      have ev : vp_nar .boolean 1 = 1 := vnar true
      have em3 : g_X12_readsGrudge hm 139 = if (dgr D k) = none then ((g_X12_nextToken g3 139).bind fun v_7 => (g_X12_needsNumber v_7 139 0 9).bind fun v_8 => if (zb v_8.1) = 0 then (some (false, v_8.2)) else ((g_X12_closes (zpi (zpi v_8.2 148 k 1) 147 (49 + k) ((zpi v_8.2 148 k 1).1 139 35)) 139).bind fun v_14 => some (v_14.1, v_14.2))) else ((g_X12_fails g3 139 3).bind fun v_15 => some (v_15.1, v_15.2)) := by
        have z49 : (49 : Int32) + nI k = nI (49 + k) := zaL_49 k
        rw [em, f3, zbind_s, zb_t, if_neg (by decide), j36, j35, i2, zlet_e, zin_t hix (by omega), zgu_t, zx_nI (by omega), mg1, z49, zin_t (show 49 + k < 98 by omega) (by omega), zx_nI (by omega), ev]
        simp only [zb_eq0]
        cases hg : dgr D k with
        | none => rw [if_pos (show (none : Option Nat).isSome = false from rfl), if_pos rfl]; rfl
        | some x => rw [if_neg (show ¬ (some x).isSome = false by simp), if_neg (by simp)]
      cases hg : dgr D k with
      | some x =>
        rw [hg, if_neg (by simp)] at ec3 em3
        exact JL.fl I tp2.2.1 (by decide) (by decide) u4 ((c_failb rd13 X4 3).go (fun h' z => by rw [ec3]; exact z)) e0 t3 ((m_failb Y3 3).go (fun h' z => by rw [em3]; exact z))
      | none =>
        rw [hg, if_pos rfl] at ec3 em3
        obtain ⟨h5, e5, X5, w5⟩ := e_look I X4
        obtain ⟨g5, f5, Y5, v5⟩ := e_next I Y3
        rw [e5, zbind_s] at ec3
        rw [f5, zbind_s] at em3
        have tp3 := tx_prop (T := T) tp2.2.1
        have u5 : zsm AWc hc h5 := u4.tr (w5.mono (fun a k z => av_wc (Or.inl z)))
        have t5 : zsm AWm hm g5 := t3.tr (v5.mono (fun a k z => av_wm (Or.inl z)))
        by_cases c3 : tc T (tx T (tx T (tx T q))) = 3
        · by_cases cr : tn T (tx T (tx T (tx T q))) ≤ 9
          · have tp4 := tx_prop (T := T) tp3.2.1
            obtain ⟨h6, e6, X6, k6, w6⟩ := c_numY rd13 I X5 c3 (lo := 0) (hi := 9) (by decide) (by decide) (by omega) cr
            obtain ⟨g6, f6, Y6, j6, v6⟩ := m_numY I Y5 c3 (lo := 0) (hi := 9) (by decide) (by decide) (by omega) cr
            have e6 : g_X4_takeNumber_c5 h5 13 0 9 = some (true, h6) := e6
            have f6 : g_X12_needsNumber g5 139 0 9 = some (true, g6) := f6
            generalize tn T (tx T (tx T (tx T q))) = v at cr k6 j6
            have w7 : zsm (fun a j => a = 20 ∧ j = k) h6 (zpi h6 20 k (nI v)) := zsm.pi ⟨rfl, rfl⟩
            have j6' : (zpi g6 148 k 1).1 139 35 = nI v := by rw [zpi_r, if_neg (by omega)]; exact j6
            have v7 : zsm (fun a j => (a = 148 ∧ j = k) ∨ (a = 147 ∧ j = 49 + k)) g6 (zpi (zpi g6 148 k 1) 147 (49 + k) (nI v)) := (zsm.pi (Or.inl ⟨rfl, rfl⟩)).tr (zsm.pi (Or.inr ⟨rfl, rfl⟩))
            have C6 : DCd D (tx T (tx T (tx T (tx T q)))) h6 := C4.av ((w5.mono (fun a k z => Or.inl z)).tr w6) (by omega)
            have M6 : DMd D (tx T (tx T (tx T (tx T q)))) g6 := M3.av ((v5.mono (fun a k z => Or.inl z)).tr v6) (by omega)
            refine JL.cl (D := (dR D, dnm D, fun j => if j = k then some v else dgr D j, don D)) (hc1 := zpi h6 20 k (nI v)) (hm1 := zpi (zpi g6 148 k 1) 147 (49 + k) (nI v)) (q1 := tx T (tx T (tx T (tx T q)))) I ⟨J.1, J.2.1, J.2.2.1, fun j x hj => ?_⟩ (by omega) ((u5.tr (w6.mono (fun a k z => av_wc z))).tr (w7.mono (fun a k z => by unfold AWc; omega))) ?_ (X6.vl (by decide) _ _) ?_ ((t5.tr (v6.mono (fun a k z => av_wm z))).tr (v7.mono (fun a k z => by unfold AWm; omega))) ?_ (Y6.same v7 (fun j _ _ => by omega) (fun j => by omega)) ?_
            · have hj : (if j = k then some v else dgr D j) = some x := hj
              by_cases cj : j = k
              · rw [if_pos cj] at hj; cases hj; exact cr
              · rw [if_neg cj] at hj; exact J.2.2.2 j x hj
            · rw [e0, ec3, e6, zbind_s, zb_t, if_neg (by decide), k6]
            · obtain ⟨a1, r2, r3, r4, len, l1, l2, l3, l4⟩ := C6
              obtain ⟨a1, a2, a3, a4, a5, a6, a7, a8⟩ := a1
              refine ⟨⟨by rw [(w7 _ _ (by omega)).1]; exact a1, by rw [(w7 _ _ (by omega)).1]; exact a2, by rw [(w7 _ _ (by omega)).1]; exact a3, by rw [(w7 _ _ (by omega)).1]; exact a4, fun p hp => by rw [(w7 _ _ (by omega)).1]; exact a5 p hp, fun p hp => by rw [(w7 _ _ (by omega)).1]; exact a6 p hp, fun p hp => by rw [(w7 _ _ (by omega)).1]; exact a7 p hp, fun p hp => by rw [(w7 _ _ (by omega)).1]; exact a8 p hp⟩, fun j hj => ?_, fun p hp => by rw [(w7 _ _ (by omega)).2]; exact r3 p hp, ?_, len, l1, by rw [(w7 _ _ (by omega)).1]; exact l2, l3.same (w7 _ _ (by omega)).1 (w7 _ _ (by omega)).1 (fun j _ => (w7 _ _ (by omega)).1), l4.same (w7 _ _ (by omega)).1 (w7 _ _ (by omega)).1 (fun j _ => (w7 _ _ (by omega)).1)⟩
              · show (zpi h6 20 k (nI v)).1 20 j = zo (if j = k then some v else dgr D j)
                rw [zpi_r]
                by_cases cj : j = k
                · rw [if_pos ⟨rfl, cj⟩, if_pos cj]; rfl
                · rw [if_neg (by omega), if_neg cj]; exact r2 j hj
              · obtain ⟨m, m1, m2, m3⟩ := r4
                exact ⟨m, m1, by rw [(w7 _ _ (by omega)).1]; exact m2, m3⟩
            · rw [em3, f6, zbind_s, zb_t, if_neg (by decide), j6']
            · obtain ⟨a1, r2, r3, r4, len, l1, l2, l3, l4⟩ := M6
              obtain ⟨a1, a2, a3, a4, a5, a6, a7, a8⟩ := a1
              refine ⟨⟨by rw [(v7 _ _ (by omega)).1]; exact a1, by rw [(v7 _ _ (by omega)).1]; exact a2, by rw [(v7 _ _ (by omega)).1]; exact a3, by rw [(v7 _ _ (by omega)).1]; exact a4, fun p hp => by rw [(v7 _ _ (by omega)).1]; exact a5 p hp, fun p hp => by rw [(v7 _ _ (by omega)).1]; exact a6 p hp, fun p hp => by rw [(v7 _ _ (by omega)).1]; exact a7 p hp, fun p hp => by rw [(v7 _ _ (by omega)).1]; exact a8 p hp⟩, fun j hj => ?_, fun p hp => by rw [(v7 _ _ (by omega)).2]; exact r3 p hp, ?_, len, l1, by rw [(v7 _ _ (by omega)).1]; exact l2, l3.same (v7 _ _ (by omega)).1 (v7 _ _ (by omega)).1 (fun j _ => (v7 _ _ (by omega)).1), l4.same (v7 _ _ (by omega)).1 (v7 _ _ (by omega)).1 (fun j _ => (v7 _ _ (by omega)).1)⟩
              · show (zpi (zpi g6 148 k 1) 147 (49 + k) (nI v)).1 148 j = zb (if j = k then some v else dgr D j).isSome ∧ (zpi (zpi g6 148 k 1) 147 (49 + k) (nI v)).1 147 (49 + j) = nI ((if j = k then some v else dgr D j).getD 0)
                by_cases cj : j = k
                · rw [if_pos cj, zpi_r, if_neg (by omega), zpi_r, if_pos ⟨rfl, cj⟩, zpi_r, if_pos ⟨rfl, by omega⟩]; exact ⟨rfl, rfl⟩
                · rw [if_neg cj, zpi_r, if_neg (by omega), zpi_r, if_neg (by omega), zpi_r, if_neg (by omega), zpi_r, if_neg (by omega)]; exact r2 j hj
              · obtain ⟨m, m1, m2, m3⟩ := r4
                exact ⟨m, m1, by rw [(v7 _ _ (by omega)).1]; exact m2, m3⟩
          · have x1 : CF 13 _ 4 h5 (g_X4_takeNumber_c5 h5 13 0 9) := c_num4 rd13 I X5 c3 (lo := 0) (hi := 9) (by decide) (by decide) (by omega)
            have x2 : MF _ 4 g5 (g_X12_needsNumber g5 139 0 9) := m_num4 I Y5 c3 (lo := 0) (hi := 9) (by decide) (by decide) (by omega)
            exact JL.fl I tp3.2.1 (by decide) (by decide) u5 (x1.go (fun h' z => by rw [ec3, z]; rfl)) e0 t5 (x2.go (fun h' z => by rw [em3, z]; rfl))
        · have x1 := c_num1 rd13 X5 c3 0 9
          have x2 := m_num1 Y5 c3 0 9
          exact JL.fl I tp3.2.1 (by decide) (by decide) u5 (x1.go (fun h' z => by rw [ec3, z]; rfl)) e0 t5 (x2.go (fun h' z => by rw [em3, z]; rfl))
end N7
