/-! reading: the line of a person -/
section N10
variable {T : zTp} {q q1 : Nat} {h h' hc hm hc1 hm1 : zH} {A : Nat → Nat → Prop} {D : zDr}
theorem e_124 (I : TI T) (K : MT T q h) {n : Nat} (hn : n < 7) (x2 : Int64) (s0 : Int32) : g_X12_readsPerson_124 139 (nI (7 + n)) x2 s0 (nI (7 + n)) h = if 0 ≤ s0 then ((g_X12_nextToken (zpi h 143 (7 + n) s0) 139).bind fun v_25 => (g_X12_needsBoth v_25 139 923 0 99).bind fun v_26 => if (zb v_26.1) = 0 then (some (false, v_26.2)) else ((g_X12_needsBoth (zpi v_26.2 144 (7 + n) (v_26.2.1 139 35)) 139 109240 0 9).bind fun v_30 => if (zb v_30.1) = 0 then (some (false, v_30.2)) else (zlet (zpl (zpi (zpi v_30.2 145 (7 + n) (v_30.2.1 139 35)) 146 (7 + n) (-1)) 142 (7 + n) x2) fun h_37 => (g_X12_closes (zpi h_37 141 4 ((h_37.1 141 4) + 1)) 139).bind fun v_41 => some (v_41.1, v_41.2)))) else ((g_X12_fails (zpi h 143 (7 + n) s0) 139 1).bind fun v_42 => some (v_42.1, v_42.2)) := by
  unfold g_X12_readsPerson_124
  rw [zin_t (show 7 + n < 14 by omega) (by omega), zgu_t, zx_nI (by omega), zr_139_12, zlet_e, zgu_t, zpi_s, zr_139_13, zr_139_14, zr_139_15, zr_139_11, zr_139_10]
  simp only [zgu_t, zlet_e, zil_4 (show 4 < 8 by decide), zxl_4]
/-- the rest of it: from the kind on -/
theorem l_pers2 (I : TI T) (J : DI D) (hq1 : q < q1) (h7 : rn (dR D) < 7) {nm : List Nat} (hW : WI nm) (X : CT T q1 hc1) (C : DCd D q1 hc1) (Y : MT T q1 hm1) (M : DMd D q1 hm1) (u : zsm AWc hc hc1) (t : zsm AWm hm hm1) {b : Option (Bool × zH)}
    (e0 : g_X6_readLine hc 13 = (g_X8_lookAtNext hc1 1).bind fun v_9 => if (v_9.1 1 2) < 31 then (g_X6_readPerson_100 13 v_9) else (if (v_9.1 1 2) ≤ 34 then (zlet ((v_9.1 1 2) - 31) fun v_12 => (g_X8_lookAtNext v_9 1).bind fun v_13 => (g_X4_take_c5 v_13 13 13).bind fun v_14 => if (zb v_14.1) = 0 then (some (false, v_14.2)) else ((g_X4_takeNumber_c5 v_14.2 13 0 99).bind fun v_16 => if (zb v_16.1) = 0 then (some (false, v_16.2)) else (zlet (v_16.2.1 13 2) fun v_18 => (g_X4_take_c5 v_16.2 13 14).bind fun v_19 => if (zb v_19.1) = 0 then (some (false, v_19.2)) else ((g_X4_takeNumber_c5 v_19.2 13 0 9).bind fun v_21 => if (zb v_21.1) = 0 then (some (false, v_21.2)) else ((g_X5_addPerson v_21.2 14 (w32 nm) v_12 v_18 (v_21.2.1 13 2)).bind fun v_23 => some (true, v_23)))))) else (g_X6_readPerson_100 13 v_9)))
    (eb : b = (g_X12_nextToken hm1 139).bind fun v_9 => (g_X12_isWord v_9 139 8740238).bind fun v_10 => if (zb v_10) = 0 then ((g_X12_isWord v_9 139 10124021).bind fun v_12 => if (zb v_12) = 0 then ((g_X12_isWord v_9 139 6257).bind fun v_14 => if (zb v_14) = 0 then ((g_X12_isWord v_9 139 117812495).bind fun v_16 => if (zb v_16) = 0 then (g_X12_readsPerson_124 139 (nI (7 + rn (dR D))) (w27 nm) (-1) (nI (7 + rn (dR D))) v_9) else (g_X12_readsPerson_124 139 (nI (7 + rn (dR D))) (w27 nm) 3 (nI (7 + rn (dR D))) v_9)) else (g_X12_readsPerson_124 139 (nI (7 + rn (dR D))) (w27 nm) 2 (nI (7 + rn (dR D))) v_9)) else (g_X12_readsPerson_124 139 (nI (7 + rn (dR D))) (w27 nm) 1 (nI (7 + rn (dR D))) v_9)) else (g_X12_readsPerson_124 139 (nI (7 + rn (dR D))) (w27 nm) 0 (nI (7 + rn (dR D))) v_9)) : JL T q hc hm (clin hc) b := by
  have l := I.1
  have htp := tx_prop (T := T) X.2.1
  obtain ⟨h2, e2, X2, w2⟩ := e_look I X
  obtain ⟨g2, f2, Y2, v2⟩ := e_next I Y
  have C2 : DCd D (tx T q1) h2 := C.av (w2.mono (fun a k z => Or.inl z)) htp.1
  have M2 : DMd D (tx T q1) g2 := M.av (v2.mono (fun a k z => Or.inl z)) htp.1
  have u2 : zsm AWc hc h2 := u.tr (w2.mono (fun a k z => av_wc (Or.inl z)))
  have t2 : zsm AWm hm g2 := t.tr (v2.mono (fun a k z => av_wm (Or.inl z)))
  rw [e2, zbind_s] at e0
  rw [f2, zbind_s] at eb
  generalize hq2 : tx T q1 = q2 at *
  have htc := tc_lt T q2
  have hq2' : q < q2 := by omega
  have s0 := e_isWord I Y2 (i := 19) (by decide) 8740238 wl_19
  have s1 := e_isWord I Y2 (i := 20) (by decide) 10124021 wl_20
  have s2 := e_isWord I Y2 (i := 21) (by decide) 6257 wl_21
  have s3 := e_isWord I Y2 (i := 22) (by decide) 117812495 wl_22
  have eb2 : b = g_X12_readsPerson_124 139 (nI (7 + rn (dR D))) (w27 nm) (if 31 ≤ tc T q2 ∧ tc T q2 ≤ 34 then nI (tc T q2 - 31) else -1) (nI (7 + rn (dR D))) g2 := by
    rw [eb, s0, zbind_s, s1, zbind_s, s2, zbind_s, s3, zbind_s]
    simp only [zb_eq0, decide_eq_false_iff_not]
    by_cases c0 : tc T q2 = 31
    · rw [if_neg (fun z => z c0), if_pos (by omega), c0]; rfl
    · rw [if_pos c0]
      by_cases c1 : tc T q2 = 32
      · rw [if_neg (fun z => z c1), if_pos (by omega), c1]; rfl
      · rw [if_pos c1]
        by_cases c2 : tc T q2 = 33
        · rw [if_neg (fun z => z c2), if_pos (by omega), c2]; rfl
        · rw [if_pos c2]
          by_cases c3 : tc T q2 = 34
          · rw [if_neg (fun z => z c3), if_pos (by omega), c3]; rfl
          · rw [if_pos c3, if_neg (show ¬ (31 ≤ tc T q2 ∧ tc T q2 ≤ 34) by omega)]
  rw [e_124 I Y2 h7] at eb2
  have l31 : (nI (tc T q2) < (31 : Int32)) = (tc T q2 < 31) := zlt_k (n := 31) (by omega) (by decide)
  have l34 : (nI (tc T q2) ≤ (34 : Int32)) = (tc T q2 ≤ 34) := propext (nI_leI (b := 34) (by omega) (by decide))
  by_cases ck : 31 ≤ tc T q2 ∧ tc T q2 ≤ 34
  · rw [if_pos ck, if_pos (by rw [zleL_0 (by omega)]; omega)] at eb2
    have ek : nI (tc T q2) - 31 = nI (tc T q2 - 31) := nI_sb (b := 31) (by omega)
    rw [X2.2.2.2.2.1, if_neg (by rw [l31]; omega), if_pos (by rw [l34]; exact ck.2), ek, zlet_e] at e0
    have hk3 : tc T q2 - 31 ≤ 3 := by omega
    generalize hk : tc T q2 - 31 = k at *
    have htp2 := tx_prop (T := T) X2.2.1
    obtain ⟨h3, e3, X3, w3⟩ := e_look I X2
    have va : zsm (fun a j => a = 143 ∧ j = 7 + rn (dR D)) g2 (zpi g2 143 (7 + rn (dR D)) (nI k)) := zsm.pi ⟨rfl, rfl⟩
    obtain ⟨g3, f3, Y3, v3⟩ := e_next I (Y2.same va (fun j _ _ => by omega) (fun j => by omega))
    have y3 : g3.1 143 (7 + rn (dR D)) = nI k := by rw [(v3 _ _ (by unfold AM1; omega)).1, zpi_s]
    rw [e3, zbind_s] at e0
    rw [f3, zbind_s] at eb2
    have u3 : zsm AWc hc h3 := u2.tr (w3.mono (fun a k z => av_wc (Or.inl z)))
    have t3 : zsm AWm hm g3 := (t2.tr (va.mono (fun a k z => by unfold AWm; omega))).tr (v3.mono (fun a k z => av_wm (Or.inl z)))
    generalize hq3 : tx T q2 = q3 at *
    by_cases c13 : tc T q3 = 13
    · have htp3 := tx_prop (T := T) X3.2.1
      obtain ⟨h4, e4, X4, w4⟩ := c_takeY rd13 I X3 c13
      have e4 : g_X4_take_c5 h3 13 13 = some (true, h4) := e4
      obtain ⟨g4, Y4, v4, f4⟩ := m_bothW I Y3 (i := 1) (by decide) 923 wl_1 c13 0 99
      rw [e4, zbind_s, zb_t, if_neg (by decide)] at e0
      rw [f4, zbid] at eb2
      have u4 : zsm AWc hc h4 := u3.tr (w4.mono (fun a k z => av_wc (Or.inl z)))
      have t4 : zsm AWm hm g4 := t3.tr (v4.mono (fun a k z => av_wm (Or.inl z)))
      generalize hq4 : tx T q3 = q4 at *
      by_cases c4 : tc T q4 = 3
      · by_cases r4 : tn T q4 ≤ 99
        · have htp4 := tx_prop (T := T) X4.2.1
          obtain ⟨h5, e5, X5, k5, w5⟩ := c_numY rd13 I X4 c4 (lo := 0) (hi := 99) (by decide) (by decide) (by omega) r4
          have e5 : g_X4_takeNumber_c5 h4 13 0 99 = some (true, h5) := e5
          obtain ⟨g5, f5, Y5, j5, v5⟩ := m_numY I Y4 c4 (lo := 0) (hi := 99) (by decide) (by decide) (by omega) r4
          have f5 : g_X12_needsNumber g4 139 0 99 = some (true, g5) := f5
          rw [e5, zbind_s, zb_t, if_neg (by decide), k5, zlet_e] at e0
          rw [f5, zbind_s, zb_t, if_neg (by decide), j5] at eb2
          generalize ha : tn T q4 = a at *
          have vb : zsm (fun x j => x = 144 ∧ j = 7 + rn (dR D)) g5 (zpi g5 144 (7 + rn (dR D)) (nI a)) := zsm.pi ⟨rfl, rfl⟩
          have Y5' : MT T (tx T q4) (zpi g5 144 (7 + rn (dR D)) (nI a)) := Y5.same vb (fun j _ _ => by omega) (fun j => by omega)
          have y5 : (zpi g5 144 (7 + rn (dR D)) (nI a)).1 144 (7 + rn (dR D)) = nI a := zpi_s _ _ _ _
          generalize hg5 : zpi g5 144 (7 + rn (dR D)) (nI a) = g5' at *
          have u5 : zsm AWc hc h5 := u4.tr (w5.mono (fun a k z => av_wc z))
          have t5 : zsm AWm hm g5' := (t4.tr (v5.mono (fun a k z => av_wm z))).tr (vb.mono (fun a k z => by unfold AWm; omega))
          generalize hq5 : tx T q4 = q5 at *
          by_cases c14 : tc T q5 = 14
          · have htp5 := tx_prop (T := T) X5.2.1
            obtain ⟨h6, e6, X6, w6⟩ := c_takeY rd13 I X5 c14
            have e6 : g_X4_take_c5 h5 13 14 = some (true, h6) := e6
            obtain ⟨g6, Y6, v6, f6⟩ := m_bothW I Y5' (i := 2) (by decide) 109240 wl_2 c14 0 9
            rw [e6, zbind_s, zb_t, if_neg (by decide)] at e0
            rw [f6, zbid] at eb2
            have u6 : zsm AWc hc h6 := u5.tr (w6.mono (fun a k z => av_wc (Or.inl z)))
            have t6 : zsm AWm hm g6 := t5.tr (v6.mono (fun a k z => av_wm (Or.inl z)))
            generalize hq6 : tx T q5 = q6 at *
            by_cases c6 : tc T q6 = 3
            · by_cases r6 : tn T q6 ≤ 9
              · have htp6 := tx_prop (T := T) X6.2.1
                obtain ⟨h8, e8, X8, k8, w8⟩ := c_numY rd13 I X6 c6 (lo := 0) (hi := 9) (by decide) (by decide) (by omega) r6
                have e8 : g_X4_takeNumber_c5 h6 13 0 9 = some (true, h8) := e8
                obtain ⟨g8, f8, Y8, j8, v8⟩ := m_numY I Y6 c6 (lo := 0) (hi := 9) (by decide) (by decide) (by omega) r6
                have f8 : g_X12_needsNumber g6 139 0 9 = some (true, g8) := f8
                rw [e8, zbind_s, zb_t, if_neg (by decide), k8] at e0
                rw [f8, zbind_s, zb_t, if_neg (by decide), j8, zlet_e] at eb2
                generalize he : tn T q6 = e at *
                have wC : zsm (AV 13) h2 h8 := ((((w3.mono (fun a k z => Or.inl z)).tr (w4.mono (fun a k z => Or.inl z))).tr w5).tr (w6.mono (fun a k z => Or.inl z))).tr w8
                have C8 : DCd D (tx T q6) h8 := C2.av wC (by omega)
                obtain ⟨h9, e9, C9, w9⟩ := e_addPerson J C8 h7 nm k a e
                rw [e9, zbind_s] at e0
                have vm : zsm (fun x j => AVm x j ∨ ((143 ≤ x ∧ x ≤ 144) ∧ j = 7 + rn (dR D))) g2 g8 := (((((va.mono (fun a k z => by omega)).tr (v3.mono (fun a k z => Or.inl (Or.inl z)))).tr (v4.mono (fun a k z => Or.inl (Or.inl z)))).tr (v5.mono (fun a k z => Or.inl z))).tr (vb.mono (fun a k z => by omega))).tr ((v6.mono (fun a k z => Or.inl (Or.inl z))).tr (v8.mono (fun a k z => Or.inl z)))
                have p4 : g8.1 141 4 = nI (rn (dR D)) := by rw [(vm _ _ (by unfold AVm AM1; omega)).1]; exact M2.1.1
                have q143 : g8.1 143 (7 + rn (dR D)) = nI k := by rw [(v8 _ _ (by unfold AVm AM1; omega)).1, (v6 _ _ (by unfold AM1; omega)).1, (vb _ _ (by omega)).1, (v5 _ _ (by unfold AVm AM1; omega)).1, (v4 _ _ (by unfold AM1; omega)).1]; exact y3
                have q144 : g8.1 144 (7 + rn (dR D)) = nI a := by rw [(v8 _ _ (by unfold AVm AM1; omega)).1, (v6 _ _ (by unfold AM1; omega)).1]; exact y5
                have n1 : zsm (fun x j => x = 145 ∧ j = 7 + rn (dR D)) g8 (zpi g8 145 (7 + rn (dR D)) (nI e)) := zsm.pi ⟨rfl, rfl⟩
                have o1 : (zpi g8 145 (7 + rn (dR D)) (nI e)).1 145 (7 + rn (dR D)) = nI e := zpi_s _ _ _ _
                generalize zpi g8 145 (7 + rn (dR D)) (nI e) = k1 at n1 o1 eb2
                have n2 : zsm (fun x j => x = 146 ∧ j = 7 + rn (dR D)) k1 (zpi k1 146 (7 + rn (dR D)) (-1)) := zsm.pi ⟨rfl, rfl⟩
                have o2 : (zpi k1 146 (7 + rn (dR D)) (-1)).1 146 (7 + rn (dR D)) = -1 := zpi_s _ _ _ _
                generalize zpi k1 146 (7 + rn (dR D)) (-1) = k2 at n2 o2 eb2
                have n3 : zsm (fun x j => x = 142 ∧ j = 7 + rn (dR D)) k2 (zpl k2 142 (7 + rn (dR D)) (w27 nm)) := zsm.pl ⟨rfl, rfl⟩
                have o3 : (zpl k2 142 (7 + rn (dR D)) (w27 nm)).2 142 (7 + rn (dR D)) = w27 nm := by rw [zpl_r, if_pos ⟨rfl, rfl⟩]
                generalize zpl k2 142 (7 + rn (dR D)) (w27 nm) = k3 at n3 o3 eb2
                have p43 : k3.1 141 4 = nI (rn (dR D)) := by rw [(n3 _ _ (by omega)).1, (n2 _ _ (by omega)).1, (n1 _ _ (by omega)).1]; exact p4
                rw [p43, nI_1] at eb2
                have n4 : zsm (fun x j => x = 141 ∧ j = 4) k3 (zpi k3 141 4 (nI (rn (dR D) + 1))) := zsm.pi ⟨rfl, rfl⟩
                have o4 : (zpi k3 141 4 (nI (rn (dR D) + 1))).1 141 4 = nI (rn (dR D) + 1) := zpi_s _ _ _ _
                generalize zpi k3 141 4 (nI (rn (dR D) + 1)) = k4 at n4 o4 eb2
                have n5 : zsm (fun x j => (x = 141 ∧ j = 4) ∨ ((142 ≤ x ∧ x ≤ 146) ∧ j = 7 + rn (dR D))) g8 k4 := (((n1.mono (fun a k z => by omega)).tr (n2.mono (fun a k z => by omega))).tr (n3.mono (fun a k z => by omega))).tr (n4.mono (fun a k z => by omega))
                have nall : zsm (fun x j => AVm x j ∨ (x = 141 ∧ j = 4) ∨ ((142 ≤ x ∧ x ≤ 146) ∧ j = 7 + rn (dR D))) g2 k4 := (vm.mono (fun a k z => by
                  rcases z with z | z
                  · exact Or.inl z
                  · exact Or.inr (by omega))).tr (n5.mono (fun a k z => Or.inr z))
                refine JL.cl (D := dAdd D nm k a e) (hc1 := h9) (hm1 := k4) (q1 := tx T q6) I (dAdd_I J h7 hW hk3 r4 r6) (by omega) ((u6.tr (w8.mono (fun a k z => av_wc z))).tr (w9.mono (fun a k z => by unfold AWc; omega))) e0 (X8.same w9 (fun j => by omega) (fun j => by omega)) C9 (t2.tr (nall.mono (fun a k z => by unfold AVm AM1 at z; unfold AWm; omega))) eb2 (Y8.same n5 (fun j _ _ => by omega) (fun j => by omega)) ?_
                refine e_addM J M2 h7 nm k a e ?_ ?_ ?_ ?_ ?_ o4 nall (by omega)
                · rw [(n4 _ _ (by omega)).1, (n3 _ _ (by omega)).1, (n2 _ _ (by omega)).1, (n1 _ _ (by omega)).1]; exact q143
                · rw [(n4 _ _ (by omega)).1, (n3 _ _ (by omega)).1, (n2 _ _ (by omega)).1, (n1 _ _ (by omega)).1]; exact q144
                · rw [(n4 _ _ (by omega)).1, (n3 _ _ (by omega)).1, (n2 _ _ (by omega)).1]; exact o1
                · rw [(n4 _ _ (by omega)).1, (n3 _ _ (by omega)).1]; exact o2
                · rw [(n4 _ _ (by omega)).2]; exact o3
              · have x1 : CF 13 _ 4 h6 (g_X4_takeNumber_c5 h6 13 0 9) := c_num4 rd13 I X6 c6 (lo := 0) (hi := 9) (by decide) (by decide) (by omega)
                have x2 : MF _ 4 g6 (g_X12_needsNumber g6 139 0 9) := m_num4 I Y6 c6 (lo := 0) (hi := 9) (by decide) (by decide) (by omega)
                exact JL.fl I X6.2.1 (by decide) (by decide) u6 (x1.go (fun h' z => by rw [z]; rfl)) e0 t6 (x2.go (fun h' z => by rw [eb2, z]; rfl))
            · have x1 := c_num1 rd13 X6 c6 0 9
              have x2 := m_num1 Y6 c6 0 9
              exact JL.fl I X6.2.1 (by decide) (by decide) u6 (x1.go (fun h' z => by rw [z]; rfl)) e0 t6 (x2.go (fun h' z => by rw [eb2, z]; rfl))
          · have x1 : CF 13 _ 1 h5 (g_X4_take_c5 h5 13 14) := c_takeN rd13 X5 c14 (by decide)
            have x2 := m_bothW1 I Y5' (i := 2) (by decide) 109240 wl_2 c14 0 9
            exact JL.fl I X5.2.1 (by decide) (by decide) u5 (x1.go (fun h' z => by rw [z]; rfl)) e0 t5 (x2.go (fun h' z => by rw [eb2, z]; rfl))
        · have x1 : CF 13 _ 4 h4 (g_X4_takeNumber_c5 h4 13 0 99) := c_num4 rd13 I X4 c4 (lo := 0) (hi := 99) (by decide) (by decide) (by omega)
          have x2 : MF _ 4 g4 (g_X12_needsNumber g4 139 0 99) := m_num4 I Y4 c4 (lo := 0) (hi := 99) (by decide) (by decide) (by omega)
          exact JL.fl I X4.2.1 (by decide) (by decide) u4 (x1.go (fun h' z => by rw [z]; rfl)) e0 t4 (x2.go (fun h' z => by rw [eb2, z]; rfl))
      · have x1 := c_num1 rd13 X4 c4 0 99
        have x2 := m_num1 Y4 c4 0 99
        exact JL.fl I X4.2.1 (by decide) (by decide) u4 (x1.go (fun h' z => by rw [z]; rfl)) e0 t4 (x2.go (fun h' z => by rw [eb2, z]; rfl))
    · have x1 : CF 13 _ 1 h3 (g_X4_take_c5 h3 13 13) := c_takeN rd13 X3 c13 (by decide)
      have x2 := m_bothW1 I Y3 (i := 1) (by decide) 923 wl_1 c13 0 99
      exact JL.fl I X3.2.1 (by decide) (by decide) u3 (x1.go (fun h' z => by rw [z]; rfl)) e0 t3 (x2.go (fun h' z => by rw [eb2, z]; rfl))
  · rw [if_neg ck, if_neg (by decide)] at eb2
    have va : zsm (fun a j => a = 143 ∧ j = 7 + rn (dR D)) g2 (zpi g2 143 (7 + rn (dR D)) (-1)) := zsm.pi ⟨rfl, rfl⟩
    have er : g_X6_readLine hc 13 = g_X6_readPerson_100 13 h2 := by
      rw [e0, X2.2.2.2.2.1]
      by_cases d : tc T q2 < 31
      · rw [if_pos (by rw [l31]; exact d)]
      · rw [if_neg (by rw [l31]; exact d), if_neg (by rw [l34]; omega)]
    exact JL.fl I X2.2.1 (by decide) (by decide) u2 ((c_failb rd13 X2 1).go (fun h' z => z)) er (t2.tr (va.mono (fun a k z => by unfold AWm; omega))) ((m_failb (Y2.same va (fun j _ _ => by omega) (fun j => by omega)) 1).go (fun h' z => by rw [eb2]; exact z))
theorem l_person (I : TI T) (J : DI D) (K1 : CT T q hc) (C : DCd D q hc) (K2 : MT T q hm) (M : DMd D q hm) (ht : tc T q = 12) : JL T q hc hm (clin hc) (g_X12_readsPerson hm 139) := by
  have hq := K1.2.1
  have l := I.1
  have hlt := tc0 hq (by omega)
  have tp := tx_prop (T := T) hq
  have e0 : g_X6_readLine hc 13 = g_X6_readPerson hc 13 := by rw [rl_k K1, ht]; rfl
  have hn := J.1.1
  have em0 : g_X12_readsPerson hm 139 = if rn (dR D) = 7 then ((g_X12_fails hm 139 5).bind fun v_20 => some (v_20.1, v_20.2)) else ((g_X12_nextToken hm 139).bind fun v_4 => (g_X12_isKept v_4 139).bind fun v_5 => if (zb v_5) = 0 then ((g_X12_named v_4 139 1).bind fun v_7 => if v_7 < 0 then ((g_X12_nextToken v_4 139).bind fun v_9 => (g_X12_isWord v_9 139 8740238).bind fun v_10 => if (zb v_10) = 0 then ((g_X12_isWord v_9 139 10124021).bind fun v_12 => if (zb v_12) = 0 then ((g_X12_isWord v_9 139 6257).bind fun v_14 => if (zb v_14) = 0 then ((g_X12_isWord v_9 139 117812495).bind fun v_16 => if (zb v_16) = 0 then (g_X12_readsPerson_124 139 (nI (7 + rn (dR D))) (v_4.2 139 7) (-1) (nI (7 + rn (dR D))) v_9) else (g_X12_readsPerson_124 139 (nI (7 + rn (dR D))) (v_4.2 139 7) 3 (nI (7 + rn (dR D))) v_9)) else (g_X12_readsPerson_124 139 (nI (7 + rn (dR D))) (v_4.2 139 7) 2 (nI (7 + rn (dR D))) v_9)) else (g_X12_readsPerson_124 139 (nI (7 + rn (dR D))) (v_4.2 139 7) 1 (nI (7 + rn (dR D))) v_9)) else (g_X12_readsPerson_124 139 (nI (7 + rn (dR D))) (v_4.2 139 7) 0 (nI (7 + rn (dR D))) v_9)) else ((g_X12_fails v_4 139 3).bind fun v_18 => some (v_18.1, v_18.2))) else ((g_X12_fails v_4 139 1).bind fun v_19 => some (v_19.1, v_19.2))) := by
    unfold g_X12_readsPerson
    rw [zil_4 (show 4 < 8 by decide), zgu_t, zr_139_10, zxl_4, M.1.1, zaL_7, zlet_e]
    have : (nI (7 + rn (dR D)) = (14 : Int32)) = (rn (dR D) = 7) := by rw [zeq_14 (by omega)]; exact propext (by omega)
    simp only [this]
  by_cases c7 : rn (dR D) = 7
  · rw [if_pos c7] at em0
    have x1 := c_failb rd13 K1 5
    exact JL.fl I hq (by decide) (by decide) zsm.rf (x1.go (fun h' z => by
      unfold g_X6_readPerson
      rw [rd13.2.1, C.1.1, zlet_e, if_neg (by rw [zltR_7 (by omega)]; omega)]; exact z)) e0 zsm.rf ((m_failb K2 5).go (fun h' z => by rw [em0]; exact z))
  · rw [if_neg c7] at em0
    have h7 : rn (dR D) < 7 := by omega
    obtain ⟨h1, e1, X1, w1⟩ := e_look I K1
    obtain ⟨g1, f1, Y1, v1⟩ := e_next I K2
    have u1 : zsm AWc hc h1 := w1.mono (fun a k z => av_wc (Or.inl z))
    have t1 : zsm AWm hm g1 := v1.mono (fun a k z => av_wm (Or.inl z))
    have C1 : DCd D (tx T q) h1 := C.av (w1.mono (fun a k z => Or.inl z)) tp.1
    have M1 : DMd D (tx T q) g1 := M.av (v1.mono (fun a k z => Or.inl z)) tp.1
    rw [f1, zbind_s, e_isKept I Y1, zbind_s] at em0
    have ec0 : g_X6_readPerson hc 13 = if tnm T (tx T q) = false then ((g_X4_fail_c5 h1 13 1).bind fun v_25 => some (v_25.1, v_25.2)) else ((g_X8_packedWord h1 1).bind fun v_6 => (g_X5_numberOf h1 14 v_6).bind fun v_7 => if v_7 = (-1) then ((g_X8_lookAtNext h1 1).bind fun v_9 => if (v_9.1 1 2) < 31 then (g_X6_readPerson_100 13 v_9) else (if (v_9.1 1 2) ≤ 34 then (zlet ((v_9.1 1 2) - 31) fun v_12 => (g_X8_lookAtNext v_9 1).bind fun v_13 => (g_X4_take_c5 v_13 13 13).bind fun v_14 => if (zb v_14.1) = 0 then (some (false, v_14.2)) else ((g_X4_takeNumber_c5 v_14.2 13 0 99).bind fun v_16 => if (zb v_16.1) = 0 then (some (false, v_16.2)) else (zlet (v_16.2.1 13 2) fun v_18 => (g_X4_take_c5 v_16.2 13 14).bind fun v_19 => if (zb v_19.1) = 0 then (some (false, v_19.2)) else ((g_X4_takeNumber_c5 v_19.2 13 0 9).bind fun v_21 => if (zb v_21.1) = 0 then (some (false, v_21.2)) else ((g_X5_addPerson v_21.2 14 v_6 v_12 v_18 (v_21.2.1 13 2)).bind fun v_23 => some (true, v_23)))))) else (g_X6_readPerson_100 13 v_9))) else ((g_X4_fail_c5 h1 13 3).bind fun v_24 => some (v_24.1, v_24.2))) := by
      unfold g_X6_readPerson
      rw [rd13.2.1, rd13.1, C.1.1, zlet_e, if_pos (by rw [zltR_7 (by omega)]; omega), e1, zbind_s, e_isName X1, zbind_s]
      simp only [zb_eq0]
    cases hx : tnm T (tx T q)
    · rw [hx, if_pos rfl] at ec0
      rw [hx] at em0
      exact JL.fl I tp.2.1 (by decide) (by decide) u1 ((c_failb rd13 X1 1).go (fun h' z => by rw [ec0]; exact z)) e0 t1 ((m_failb Y1 1).go (fun h' z => by rw [em0]; exact z))
    · have hw := tnm_wd hx
      have hW := (wd_prop I X1.2.1 hw).2.2.2.2
      rw [hx, if_neg (by decide), e_packed I X1 hw, zbind_s, (C1.pn J).num rd13 hW, zbind_s] at ec0
      have wn : g_X12_named g1 139 1 = some (zo (fnd (rn (dR D)) (dnm D) (tl T (tx T q)))) := (M1.pn J).wd I Y1 hx
      rw [hx, if_pos (show zb (!true) = 0 from rfl), wn, zbind_s, Y1.2.2.2.2.2.1 hw] at em0
      cases hf : fnd (rn (dR D)) (dnm D) (tl T (tx T q)) with
      | some p =>
        have hp := fnd_lt hf
        rw [hf, zo_some, if_neg (by rw [znI_neg (by omega)]; exact id)] at ec0
        rw [hf, zo_some, if_neg (nI_pos (by omega))] at em0
        exact JL.fl I tp.2.1 (by decide) (by decide) u1 ((c_failb rd13 X1 3).go (fun h' z => by rw [ec0]; exact z)) e0 t1 ((m_failb Y1 3).go (fun h' z => by rw [em0]; exact z))
      | none =>
        rw [hf, zo_none, if_pos rfl] at ec0
        rw [hf, zo_none, if_pos (by decide)] at em0
        exact l_pers2 I J (by omega) h7 hW X1 C1 Y1 M1 u1 t1 (e0.trans ec0) em0
end N10
