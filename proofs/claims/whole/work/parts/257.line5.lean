/-! reading: heirs -/
section N8
variable {T : zTp} {q q1 : Nat} {h h' hc hm hc1 hm1 : zH} {A : Nat → Nat → Prop} {D : zDr}
theorem l_heir (I : TI T) (J : DI D) (K1 : CT T q hc) (C : DCd D q hc) (K2 : MT T q hm) (M : DMd D q hm) (ht : tc T q = 16) : JL T q hc hm (clin hc) (g_X12_readsHeir hm 139) := by
  have hq := K1.2.1
  have l := I.1
  have hlt := tc0 hq (by omega)
  have tp := tx_prop (T := T) hq
  have tp2 := tx_prop (T := T) tp.2.1
  have e0 : g_X6_readLine hc 13 = g_X6_readHeir hc 13 := by rw [rl_k K1, ht]; rfl
  have z14 : zR 14 4 = 19 := by decide +kernel
  have hn := J.1.1
  obtain ⟨h1, e1, X1, w1⟩ := e_look I K1
  obtain ⟨g1, f1, Y1, v1⟩ := e_next I K2
  have u1 : zsm AWc hc h1 := w1.mono (fun a k z => av_wc (Or.inl z))
  have t1 : zsm AWm hm g1 := v1.mono (fun a k z => av_wm (Or.inl z))
  have C1 : DCd D (tx T q) h1 := C.av (w1.mono (fun a k z => Or.inl z)) tp.1
  have M1 : DMd D (tx T q) g1 := M.av (v1.mono (fun a k z => Or.inl z)) tp.1
  have ec : g_X6_readHeir hc 13 = (g_X4_findPerson_c5 h1 13).bind fun v_2 => if (zb v_2.1) = 0 then (some (false, v_2.2)) else (zgu (zin (v_2.2.1 13 2) 7) <| if (v_2.2.1 19 (zx (v_2.2.1 13 2))) = (-1) then ((g_X8_lookAtNext v_2.2 1).bind fun v_6 => (g_X4_findOther_c5 v_6 13 (v_2.2.1 13 2)).bind fun v_7 => if (zb v_7.1) = 0 then (some (false, v_7.2)) else (zgu (zin (v_2.2.1 13 2) 7) <| zlet (zpi v_7.2 19 (zx (v_2.2.1 13 2)) (v_7.2.1 13 2)) fun h_10 => (g_X8_lookAtNext h_10 1).bind fun v_11 => some (true, v_11))) else ((g_X4_fail_c5 v_2.2 13 3).bind fun v_12 => some (v_12.1, v_12.2))) := by
    unfold g_X6_readHeir
    rw [rd13.1, rd13.2.1, z14, e1, zbind_s]
  have em : g_X12_readsHeir hm 139 = (g_X12_needsPerson g1 139 1).bind fun v_2 => if (zb v_2.1) = 0 then (some (false, v_2.2)) else (zlet (zpi v_2.2 139 36 (v_2.2.1 139 35)) fun h_4 => zgu (zin (7 + (h_4.1 139 36)) 14) <| if (h_4.1 146 (zx (7 + (h_4.1 139 36)))) < 0 then ((g_X12_nextToken h_4 139).bind fun v_7 => (g_X12_needsPerson v_7 139 1).bind fun v_8 => if (zb v_8.1) = 0 then (some (false, v_8.2)) else (if (v_8.2.1 139 35) = (v_8.2.1 139 36) then ((g_X12_fails v_8.2 139 3).bind fun v_15 => some (v_15.1, v_15.2)) else (zgu (zin (7 + (v_8.2.1 139 36)) 14) <| zlet (zpi v_8.2 146 (zx (7 + (v_8.2.1 139 36))) (v_8.2.1 139 35)) fun h_12 => (g_X12_nextToken h_12 139).bind fun v_13 => (g_X12_closes v_13 139).bind fun v_14 => some (v_14.1, v_14.2)))) else ((g_X12_fails h_4 139 3).bind fun v_16 => some (v_16.1, v_16.2))) := by
    unfold g_X12_readsHeir
    rw [zr_139_15, f1, zbind_s]
  cases hx : tnm T (tx T q)
  · have x2 := m_find1 I Y1 hx 1
    exact JL.fl I tp.2.1 (by decide) (by decide) u1 ((c_find1 rd13 X1 hx).go (fun h' z => by rw [ec, z]; rfl)) e0 t1 (x2.go (fun h' z => by rw [em, z]; rfl))
  · cases hf : fnd (rn (dR D)) (dnm D) (tl T (tx T q)) with
    | none =>
      have x2 : MF _ 2 g1 (g_X12_needsPerson g1 139 1) := m_find2 I Y1 (M1.pn J) hx hf
      exact JL.fl I tp.2.1 (by decide) (by decide) u1 ((c_find2 rd13 I X1 (C1.pn J) hx hf).go (fun h' z => by rw [ec, z]; rfl)) e0 t1 (x2.go (fun h' z => by rw [em, z]; rfl))
    | some p =>
      obtain ⟨h2, e2, X2, k2, w2⟩ := c_findY rd13 I X1 (C1.pn J) hx hf
      obtain ⟨g2, f2, Y2, j2, v2⟩ := m_findY I Y1 (M1.pn J) hx hf
      have f2 : g_X12_needsPerson g1 139 1 = some (true, g2) := f2
      have hp := fnd_lt hf
      have w2' : zsm (AV 13) h1 h2 := w2.mono (fun a k z => Or.inr (by omega))
      have v3 : zsm AVm g1 (zpi g2 139 36 (nI p)) := (v2.mono (fun a k z => Or.inr (by omega))).tr (zsm.pi (Or.inr (by omega)))
      have Y3 : MT T (tx T q) (zpi g2 139 36 (nI p)) := Y2.vl (by decide) _
      have j36 : (zpi g2 139 36 (nI p)).1 139 36 = nI p := by rw [zpi_s]
      generalize hg3 : zpi g2 139 36 (nI p) = g3 at v3 Y3 j36
      have C2 : DCd D (tx T q) h2 := C1.av w2' (Nat.le_refl _)
      have M3 : DMd D (tx T q) g3 := M1.av v3 (Nat.le_refl _)
      have u2 : zsm AWc hc h2 := u1.tr (w2'.mono (fun a k z => av_wc z))
      have t3 : zsm AWm hm g3 := t1.tr (v3.mono (fun a k z => av_wm z))
      have chh := C2.1.2.2.2.2.2.2.2 p (by omega)
      have mhh := M3.1.2.2.2.2.2.2.2 p hp
      have ec3 : g_X6_readHeir hc 13 = if rh (dR D) p = none then ((g_X8_lookAtNext h2 1).bind fun v_6 => (g_X4_findOther_c5 v_6 13 (nI p)).bind fun v_7 => if (zb v_7.1) = 0 then (some (false, v_7.2)) else ((g_X8_lookAtNext (zpi v_7.2 19 p (v_7.2.1 13 2)) 1).bind fun v_11 => some (true, v_11))) else ((g_X4_fail_c5 h2 13 3).bind fun v_12 => some (v_12.1, v_12.2)) := by
        rw [ec, e2, zbind_s, zb_t, if_neg (by decide), k2, zin_t (show p < 7 by omega) (by omega), zgu_t, zx_nI (by omega), chh]
        cases hh : rh (dR D) p with
        | none => rw [zo_none, if_pos rfl, if_pos rfl]; rfl
        | some x => rw [zo_some, if_neg (by have := (J.1.2.1 p hp).2.2.2 x hh; rw [znI_neg (by omega)]; exact id), if_neg (by simp)]
      have em3 : g_X12_readsHeir hm 139 = if rh (dR D) p = none then ((g_X12_nextToken g3 139).bind fun v_7 => (g_X12_needsPerson v_7 139 1).bind fun v_8 => if (zb v_8.1) = 0 then (some (false, v_8.2)) else (if (v_8.2.1 139 35) = (v_8.2.1 139 36) then ((g_X12_fails v_8.2 139 3).bind fun v_15 => some (v_15.1, v_15.2)) else (zgu (zin (7 + (v_8.2.1 139 36)) 14) <| zlet (zpi v_8.2 146 (zx (7 + (v_8.2.1 139 36))) (v_8.2.1 139 35)) fun h_12 => (g_X12_nextToken h_12 139).bind fun v_13 => (g_X12_closes v_13 139).bind fun v_14 => some (v_14.1, v_14.2)))) else ((g_X12_fails g3 139 3).bind fun v_16 => some (v_16.1, v_16.2)) := by
        rw [em, f2, zbind_s, zb_t, if_neg (by decide), j2, hg3, zlet_e, j36, zaL_7, zin_t (show 7 + p < 14 by omega) (by omega), zgu_t, zx_nI (by omega), mhh]
        cases hh : rh (dR D) p with
        | none => rw [zo_none, if_pos (by decide), if_pos rfl]
        | some x => rw [zo_some, if_neg (by have := (J.1.2.1 p hp).2.2.2 x hh; exact nI_pos (by omega)), if_neg (by simp)]
      cases hh : rh (dR D) p with
      | some x =>
        rw [hh, if_neg (by simp)] at ec3 em3
        exact JL.fl I tp.2.1 (by decide) (by decide) u2 ((c_failb rd13 X2 3).go (fun h' z => by rw [ec3]; exact z)) e0 t3 ((m_failb Y3 3).go (fun h' z => by rw [em3]; exact z))
      | none =>
        rw [hh, if_pos rfl] at ec3 em3
        obtain ⟨h4, e4, X4, w4⟩ := e_look I X2
        obtain ⟨g4, f4, Y4, v4⟩ := e_next I Y3
        rw [e4, zbind_s] at ec3
        rw [f4, zbind_s] at em3
        have u4 : zsm AWc hc h4 := u2.tr (w4.mono (fun a k z => av_wc (Or.inl z)))
        have t4 : zsm AWm hm g4 := t3.tr (v4.mono (fun a k z => av_wm (Or.inl z)))
        have C4 : DCd D (tx T (tx T q)) h4 := C2.av (w4.mono (fun a k z => Or.inl z)) tp2.1
        have M4 : DMd D (tx T (tx T q)) g4 := M3.av (v4.mono (fun a k z => Or.inl z)) tp2.1
        have j36' : g4.1 139 36 = nI p := by rw [(v4 _ _ (by unfold AM1; omega)).1]; exact j36
        cases hx2 : tnm T (tx T (tx T q))
        · have x2 := m_find1 I Y4 hx2 1
          exact JL.fl I tp2.2.1 (by decide) (by decide) u4 ((c_other1 rd13 X4 hx2 (nI p)).go (fun h' z => by rw [ec3, z]; rfl)) e0 t4 (x2.go (fun h' z => by rw [em3, z]; rfl))
        · cases hf2 : fnd (rn (dR D)) (dnm D) (tl T (tx T (tx T q))) with
          | none =>
            have x2 : MF _ 2 g4 (g_X12_needsPerson g4 139 1) := m_find2 I Y4 (M4.pn J) hx2 hf2
            exact JL.fl I tp2.2.1 (by decide) (by decide) u4 ((c_other2 rd13 I X4 (C4.pn J) hx2 hf2 (nI p)).go (fun h' z => by rw [ec3, z]; rfl)) e0 t4 (x2.go (fun h' z => by rw [em3, z]; rfl))
          | some p2 =>
            have hp2 := fnd_lt hf2
            obtain ⟨g5, f5, Y5, j5, v5⟩ := m_findY I Y4 (M4.pn J) hx2 hf2
            have f5 : g_X12_needsPerson g4 139 1 = some (true, g5) := f5
            have k36 : g5.1 139 36 = nI p := by rw [(v5 _ _ (by omega)).1]; exact j36'
            have v5' : zsm AVm g4 g5 := v5.mono (fun a k z => Or.inr (by omega))
            have t5 : zsm AWm hm g5 := t4.tr (v5'.mono (fun a k z => av_wm z))
            have M5 : DMd D (tx T (tx T q)) g5 := M4.av v5' (Nat.le_refl _)
            rw [f5, zbind_s, zb_t, if_neg (by decide), j5, k36] at em3
            by_cases hne : p2 = p
            · subst hne
              rw [if_pos rfl] at em3
              exact JL.fl I tp2.2.1 (by decide) (by decide) u4 ((c_other3 rd13 I X4 (C4.pn J) hx2 hf2).go (fun h' z => by rw [ec3, z]; rfl)) e0 t5 ((m_failb Y5 3).go (fun h' z => by rw [em3]; exact z))
            · obtain ⟨h5, e5, X5, k5, w5⟩ := c_otherY rd13 I X4 (C4.pn J) hx2 hf2 (show p < 7 by omega) hne
              have w5' : zsm (AV 13) h4 h5 := w5.mono (fun a k z => Or.inr (by omega))
              have C5 : DCd D (tx T (tx T q)) h5 := C4.av w5' (Nat.le_refl _)
              rw [if_neg (by rw [znI_eq (by omega) (by omega)]; exact hne), zaL_7, zin_t (show 7 + p < 14 by omega) (by omega), zgu_t, zx_nI (by omega), zlet_e] at em3
              rw [e5, zbind_s, zb_t, if_neg (by decide), k5] at ec3
              have w6 : zsm (fun a j => a = 19 ∧ j = p) h5 (zpi h5 19 p (nI p2)) := zsm.pi ⟨rfl, rfl⟩
              have v6 : zsm (fun a j => a = 146 ∧ j = 7 + p) g5 (zpi g5 146 (7 + p) (nI p2)) := zsm.pi ⟨rfl, rfl⟩
              obtain ⟨h7, e7, X7, w7⟩ := e_look I (X5.vl (t := 19) (by decide) p (nI p2))
              obtain ⟨g7, f7, Y7, v7⟩ := e_next I (Y5.same v6 (fun j _ _ => by omega) (fun j => by omega))
              have tp3 := tx_prop (T := T) tp2.2.1
              have wz : zsm (fun a j => AT1 a j ∨ (a = 19 ∧ j = p)) h5 h7 := (w6.mono (fun a k z => Or.inr z)).tr (w7.mono (fun a k z => Or.inl z))
              have vz : zsm (fun a j => AM1 a j ∨ (a = 146 ∧ j = 7 + p)) g5 g7 := (v6.mono (fun a k z => Or.inr z)).tr (v7.mono (fun a k z => Or.inl z))
              refine JL.cl (D := ((rn (dR D), rk (dR D), ra (dR D), re (dR D), fun j => if j = p then some p2 else rh (dR D) j, rl (dR D), ry (dR D), rb (dR D), rg (dR D), rs (dR D)), dnm D, dgr D, don D)) (hc1 := h7) (hm1 := g7) (q1 := tx T (tx T (tx T q))) I ⟨⟨J.1.1, fun j hj => ⟨(J.1.2.1 j hj).1, (J.1.2.1 j hj).2.1, (J.1.2.1 j hj).2.2.1, fun x hjx => ?_⟩, J.1.2.2⟩, fun j hj => ?_, J.2.2.1, J.2.2.2⟩ (by omega) ((u4.tr (w5'.mono (fun a k z => av_wc z))).tr (wz.mono (fun a k z => by unfold AT1 at z; unfold AWc; omega))) ?_ X7 ?_ (t5.tr (vz.mono (fun a k z => by unfold AM1 at z; unfold AWm; omega))) ?_ Y7 ?_
              · have hjx : (if j = p then some p2 else rh (dR D) j) = some x := hjx
                by_cases cj : j = p
                · rw [if_pos cj] at hjx; cases hjx; exact ⟨hp2, by omega⟩
                · rw [if_neg cj] at hjx; exact (J.1.2.1 j hj).2.2.2 x hjx
              · have hj : rn (dR D) ≤ j := hj
                show (if j = p then some p2 else rh (dR D) j) = none
                rw [if_neg (by omega)]; exact J.2.1 j hj
              · rw [e0, ec3, e7, zbind_s]
              · obtain ⟨a1, r2, r3, r4, len, l1, l2, l3, l4⟩ := C5
                obtain ⟨a1, a2, a3, a4, a5, a6, a7, a8⟩ := a1
                refine ⟨⟨by rw [(wz _ _ (by unfold AT1; omega)).1]; exact a1, by rw [(wz _ _ (by unfold AT1; omega)).1]; exact a2, by rw [(wz _ _ (by unfold AT1; omega)).1]; exact a3, by rw [(wz _ _ (by unfold AT1; omega)).1]; exact a4, fun p hp => by rw [(wz _ _ (by unfold AT1; omega)).1]; exact a5 p hp, fun p hp => by rw [(wz _ _ (by unfold AT1; omega)).1]; exact a6 p hp, fun p hp => by rw [(wz _ _ (by unfold AT1; omega)).1]; exact a7 p hp, fun j hj => ?_⟩, fun j hj => by rw [(wz _ _ (by unfold AT1; omega)).1]; exact r2 j hj, fun p hp => by rw [(wz _ _ (by unfold AT1; omega)).2]; exact r3 p hp, ?_, len, by omega, by rw [(wz _ _ (by unfold AT1; omega)).1]; exact l2, l3.same (wz _ _ (by unfold AT1; omega)).1 (wz _ _ (by unfold AT1; omega)).1 (fun j _ => (wz _ _ (by unfold AT1; omega)).1), l4.same (wz _ _ (by unfold AT1; omega)).1 (wz _ _ (by unfold AT1; omega)).1 (fun j _ => (wz _ _ (by unfold AT1; omega)).1)⟩
                · show h7.1 19 j = zo (if j = p then some p2 else rh (dR D) j)
                  by_cases cj : j = p
                  · rw [(w7 _ _ (by unfold AT1; omega)).1, cj, zpi_s, if_pos rfl]; rfl
                  · rw [(wz _ _ (by unfold AT1; omega)).1, if_neg cj]; exact a8 j hj
                · obtain ⟨m, m1, m2, m3⟩ := r4
                  exact ⟨m, m1, by rw [(wz _ _ (by unfold AT1; omega)).1]; exact m2, m3⟩
              · rw [em3, f7, zbind_s]
              · obtain ⟨a1, r2, r3, r4, len, l1, l2, l3, l4⟩ := M5
                obtain ⟨a1, a2, a3, a4, a5, a6, a7, a8⟩ := a1
                refine ⟨⟨by rw [(vz _ _ (by unfold AM1; omega)).1]; exact a1, by rw [(vz _ _ (by unfold AM1; omega)).1]; exact a2, by rw [(vz _ _ (by unfold AM1; omega)).1]; exact a3, by rw [(vz _ _ (by unfold AM1; omega)).1]; exact a4, fun p hp => by rw [(vz _ _ (by unfold AM1; omega)).1]; exact a5 p hp, fun p hp => by rw [(vz _ _ (by unfold AM1; omega)).1]; exact a6 p hp, fun p hp => by rw [(vz _ _ (by unfold AM1; omega)).1]; exact a7 p hp, fun j hj => ?_⟩, fun j hj => ⟨by rw [(vz _ _ (by unfold AM1; omega)).1]; exact (r2 j hj).1, by rw [(vz _ _ (by unfold AM1; omega)).1]; exact (r2 j hj).2⟩, fun p hp => by rw [(vz _ _ (by unfold AM1; omega)).2]; exact r3 p hp, ?_, len, by omega, by rw [(vz _ _ (by unfold AM1; omega)).1]; exact l2, l3.same (vz _ _ (by unfold AM1; omega)).1 (vz _ _ (by unfold AM1; omega)).1 (fun j _ => (vz _ _ (by unfold AM1; omega)).1), l4.same (vz _ _ (by unfold AM1; omega)).1 (vz _ _ (by unfold AM1; omega)).1 (fun j _ => (vz _ _ (by unfold AM1; omega)).1)⟩
                · show g7.1 146 (7 + j) = zo (if j = p then some p2 else rh (dR D) j)
                  by_cases cj : j = p
                  · rw [(v7 _ _ (by unfold AM1; omega)).1, cj, zpi_s, if_pos rfl]; rfl
                  · rw [(vz _ _ (by unfold AM1; omega)).1, if_neg cj]; exact a8 j hj
                · obtain ⟨m, m1, m2, m3⟩ := r4
                  exact ⟨m, m1, by rw [(vz _ _ (by unfold AM1; omega)).1]; exact m2, m3⟩
end N8
