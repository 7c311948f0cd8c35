theorem dX7_passTaxedDay_0 : decode cX7_passTaxedDay 0 = .ok (.aload_n 0, 1) := by decide +kernel
theorem dX7_passTaxedDay_1 : decode cX7_passTaxedDay 1 = .ok (.invokevirtual 125, 3) := by decide +kernel
theorem dX7_passTaxedDay_4 : decode cX7_passTaxedDay 4 = .ok (.ifCond .eq 8, 3) := by decide +kernel
theorem dX7_passTaxedDay_7 : decode cX7_passTaxedDay 7 = .ok (.aload_n 0, 1) := by decide +kernel
theorem dX7_passTaxedDay_8 : decode cX7_passTaxedDay 8 = .ok (.invokevirtual 129, 3) := by decide +kernel
theorem dX7_passTaxedDay_11 : decode cX7_passTaxedDay 11 = .ok (.pop, 1) := by decide +kernel
theorem dX7_passTaxedDay_12 : decode cX7_passTaxedDay 12 = .ok (.aload_n 0, 1) := by decide +kernel
theorem dX7_passTaxedDay_13 : decode cX7_passTaxedDay 13 = .ok (.iload_n 1, 1) := by decide +kernel
theorem dX7_passTaxedDay_14 : decode cX7_passTaxedDay 14 = .ok (.invokevirtual 132, 3) := by decide +kernel
theorem dX7_passTaxedDay_17 : decode cX7_passTaxedDay 17 = .ok (.ireturn, 1) := by decide +kernel
def g_X7_passTaxedDay_12 (t0 : Nat)  (x1 : Int32) (h : zH) : Option (Int32 × zH) := (g_X7_passDay h t0 x1).bind fun v_4 => some (v_4.1, v_4.2)
def g_X7_passTaxedDay (h : zH) (t0 : Nat) (x1 : Int32) : Option (Int32 × zH) := (g_X7_canLevy h t0).bind fun v_1 => if (zb v_1) = 0 then (g_X7_passTaxedDay_12 t0 x1 h) else ((g_X7_levy h t0).bind fun v_3 => g_X7_passTaxedDay_12 t0 x1 v_3.2)
set_option maxRecDepth 100000 in
set_option maxHeartbeats 4000000 in
theorem b_X7_passTaxedDay_12 {K : zK} {G : zG} (hK : zC K G cX7_passTaxedDay RX7 2 5 114 (some .int)) {t0 : Nat} (ht0 : zT t0 = (6, 0)) {r : Int32 × zH} (hE : zE K G (some (.int r.1)) r.2) (x1 : Int32) (h : zH) (hg : g_X7_passTaxedDay_12 t0 x1 h = some r) : zW K G 2 12 [(0, .ref (G.2.2.2 t0)), (1, .int x1)] [] h := by
  rw [g_X7_passTaxedDay_12] at hg
  obtain ⟨v_4, qv_4, hg⟩ := zbind_some hg
  exact z_aload_n (pc := 12) hK 0 dX7_passTaxedDay_12 rfl (z_iload_n (pc := 13) hK 1 dX7_passTaxedDay_13 rfl (z_callVi (pc := 14) hK [.int x1] (m_X7_passDay (zC_D hK) ht0 qv_4) sv_X7_passDay q_1068 ht0 rfl [] rfl (Nat.le_of_ble_eq_true rfl) ⟨by decide, by decide⟩ dX7_passTaxedDay_14 (z_iretE (pc := 17) hK hE hg dX7_passTaxedDay_17)))
set_option maxRecDepth 100000 in
set_option maxHeartbeats 4000000 in
theorem b_X7_passTaxedDay {K : zK} {G : zG} (hK : zC K G cX7_passTaxedDay RX7 2 5 114 (some .int)) {h : zH} {t0 : Nat} {x1 : Int32} (ht0 : zT t0 = (6, 0)) {r : Int32 × zH} (hE : zE K G (some (.int r.1)) r.2) (hg : g_X7_passTaxedDay h t0 x1 = some r) : zW K G 2 0 [(0, .ref (G.2.2.2 t0)), (1, .int x1)] [] h := by
  rw [g_X7_passTaxedDay] at hg
  obtain ⟨v_1, qv_1, hg⟩ := zbind_some hg
  refine z_aload_n (pc := 0) hK 0 dX7_passTaxedDay_0 rfl (z_callVi (pc := 1) hK [] (m_X7_canLevy (zC_D hK) ht0 qv_1) sv_X7_canLevy q_1063 ht0 rfl [] rfl (Nat.le_of_ble_eq_true rfl) ⟨by decide, by decide⟩ dX7_passTaxedDay_1 (z_if_eq (pc := 4) hK 12 dX7_passTaxedDay_4 (by decide) (fun c_2 => ?_) (fun c_2 => ?_)))
  · rw [if_pos c_2] at hg
    exact zsub (lv' := [(0, .ref (G.2.2.2 t0)), (1, .int x1)]) [0, 1] rfl (b_X7_passTaxedDay_12 hK ht0 hE x1 h hg)
  · rw [if_neg c_2] at hg
    obtain ⟨v_3, qv_3, hg⟩ := zbind_some hg
    exact z_aload_n (pc := 7) hK 0 dX7_passTaxedDay_7 rfl (z_callVi (pc := 8) hK [] (m_X7_levy (zC_D hK) ht0 qv_3) sv_X7_levy q_1065 ht0 rfl [] rfl (Nat.le_of_ble_eq_true rfl) ⟨by decide, by decide⟩ dX7_passTaxedDay_8 (z_pop (pc := 11) hK dX7_passTaxedDay_11 rfl (zsub (lv' := [(0, .ref (G.2.2.2 t0)), (1, .int x1)]) [0, 1] rfl (b_X7_passTaxedDay_12 hK ht0 hE x1 v_3.2 hg))))
theorem m_X7_passTaxedDay {l : Launch} {G : zG} (hG : zD G) {h : zH} {t0 : Nat} {x1 : Int32} (ht0 : zT t0 = (6, 0)) {r : Int32 × zH} (hg : g_X7_passTaxedDay h t0 x1 = some r) : zM l G yX7_passTaxedDay cX7_passTaxedDay 2 (some .int) 5 114 [.ref (G.2.2.2 t0), .int x1] h (some (.int r.1)) r.2 :=
  zM_of hG pn_X7 (Nat.le_of_ble_eq_true rfl) (fun K _ hK hE => b_X7_passTaxedDay hK ht0 hE hg)
theorem dX7_canBe_0 : decode cX7_canBe 0 = .ok (.iload_n 1, 1) := by decide +kernel
theorem dX7_canBe_1 : decode cX7_canBe 1 = .ok (.tableswitch 56 22 25 #[31, 36, 43, 50], 31) := by decide +kernel
theorem dX7_canBe_32 : decode cX7_canBe 32 = .ok (.aload_n 0, 1) := by decide +kernel
theorem dX7_canBe_33 : decode cX7_canBe 33 = .ok (.invokevirtual 125, 3) := by decide +kernel
theorem dX7_canBe_36 : decode cX7_canBe 36 = .ok (.ireturn, 1) := by decide +kernel
theorem dX7_canBe_37 : decode cX7_canBe 37 = .ok (.aload_n 0, 1) := by decide +kernel
theorem dX7_canBe_38 : decode cX7_canBe 38 = .ok (.iload_n 2, 1) := by decide +kernel
theorem dX7_canBe_39 : decode cX7_canBe 39 = .ok (.iload_n 3, 1) := by decide +kernel
theorem dX7_canBe_40 : decode cX7_canBe 40 = .ok (.invokevirtual 113, 3) := by decide +kernel
theorem dX7_canBe_43 : decode cX7_canBe 43 = .ok (.ireturn, 1) := by decide +kernel
theorem dX7_canBe_44 : decode cX7_canBe 44 = .ok (.aload_n 0, 1) := by decide +kernel
theorem dX7_canBe_45 : decode cX7_canBe 45 = .ok (.iload_n 2, 1) := by decide +kernel
theorem dX7_canBe_46 : decode cX7_canBe 46 = .ok (.iload_n 3, 1) := by decide +kernel
theorem dX7_canBe_47 : decode cX7_canBe 47 = .ok (.invokevirtual 148, 3) := by decide +kernel
theorem dX7_canBe_50 : decode cX7_canBe 50 = .ok (.ireturn, 1) := by decide +kernel
theorem dX7_canBe_51 : decode cX7_canBe 51 = .ok (.aload_n 0, 1) := by decide +kernel
theorem dX7_canBe_52 : decode cX7_canBe 52 = .ok (.iload_n 2, 1) := by decide +kernel
theorem dX7_canBe_53 : decode cX7_canBe 53 = .ok (.invokevirtual 60, 3) := by decide +kernel
theorem dX7_canBe_56 : decode cX7_canBe 56 = .ok (.ireturn, 1) := by decide +kernel
theorem dX7_canBe_57 : decode cX7_canBe 57 = .ok (.iconst 1, 1) := by decide +kernel
theorem dX7_canBe_58 : decode cX7_canBe 58 = .ok (.ireturn, 1) := by decide +kernel
def g_X7_canBe (h : zH) (t0 : Nat) (x1 : Int32) (x2 : Int32) (x3 : Int32) : Option Bool := zlet (x1) fun v_1 => if v_1 = 22 then ((g_X7_canLevy h t0).bind fun v_3 => some v_3) else if v_1 = 23 then ((g_X7_areTwoAlive h t0 x2 x3).bind fun v_5 => some v_5) else if v_1 = 24 then ((g_X7_canVote h t0 x2 x3).bind fun v_7 => some v_7) else if v_1 = 25 then ((g_X7_isAlive h t0 x2).bind fun v_9 => some v_9) else some true
set_option maxRecDepth 100000 in
set_option maxHeartbeats 4000000 in
theorem b_X7_canBe {K : zK} {G : zG} (hK : zC K G cX7_canBe RX7 4 5 110 (some .boolean)) {h : zH} {t0 : Nat} {x1 : Int32} {x2 : Int32} {x3 : Int32} (ht0 : zT t0 = (6, 0)) {r : Bool} (hE : zE K G (some (.int (zb r))) h) (hg : g_X7_canBe h t0 x1 x2 x3 = some r) : zW K G 4 0 [(0, .ref (G.2.2.2 t0)), (1, .int x1), (2, .int x2), (3, .int x3)] [] h := by
  rw [g_X7_canBe] at hg
  obtain ⟨v_1, ev_1, hg⟩ := zlet_some hg
  refine z_iload_n (pc := 0) hK 1 dX7_canBe_0 rfl (z_nameI ev_1 ?_)
  by_cases c_2 : v_1 = 22
  · rw [if_pos c_2] at hg
    refine z_tableIn (pc := 1) hK 32 dX7_canBe_1 (by rw [c_2]; decide) (by rw [c_2]; decide) (by rw [c_2] <;> rfl) (by decide) ?_
    obtain ⟨v_3, qv_3, hg⟩ := zbind_some hg
    exact z_aload_n (pc := 32) hK 0 dX7_canBe_32 rfl (z_callVi (pc := 33) hK [] (m_X7_canLevy (zC_D hK) ht0 qv_3) sv_X7_canLevy q_1063 ht0 rfl [] rfl (Nat.le_of_ble_eq_true rfl) ⟨by decide, by decide⟩ dX7_canBe_33 (z_zretP (pc := 36) hK rfl hE hg dX7_canBe_36))
  rw [if_neg c_2] at hg
  by_cases c_4 : v_1 = 23
  · rw [if_pos c_4] at hg
    refine z_tableIn (pc := 1) hK 37 dX7_canBe_1 (by rw [c_4]; decide) (by rw [c_4]; decide) (by rw [c_4] <;> rfl) (by decide) ?_
    obtain ⟨v_5, qv_5, hg⟩ := zbind_some hg
    exact z_aload_n (pc := 37) hK 0 dX7_canBe_37 rfl (z_iload_n (pc := 38) hK 2 dX7_canBe_38 rfl (z_iload_n (pc := 39) hK 3 dX7_canBe_39 rfl (z_callVi (pc := 40) hK [.int x2, .int x3] (m_X7_areTwoAlive (zC_D hK) ht0 qv_5) sv_X7_areTwoAlive q_1003 ht0 rfl [] rfl (Nat.le_of_ble_eq_true rfl) ⟨by decide, by decide⟩ dX7_canBe_40 (z_zretP (pc := 43) hK rfl hE hg dX7_canBe_43))))
  rw [if_neg c_4] at hg
  by_cases c_6 : v_1 = 24
  · rw [if_pos c_6] at hg
    refine z_tableIn (pc := 1) hK 44 dX7_canBe_1 (by rw [c_6]; decide) (by rw [c_6]; decide) (by rw [c_6] <;> rfl) (by decide) ?_
    obtain ⟨v_7, qv_7, hg⟩ := zbind_some hg
    exact z_aload_n (pc := 44) hK 0 dX7_canBe_44 rfl (z_iload_n (pc := 45) hK 2 dX7_canBe_45 rfl (z_iload_n (pc := 46) hK 3 dX7_canBe_46 rfl (z_callVi (pc := 47) hK [.int x2, .int x3] (m_X7_canVote (zC_D hK) ht0 qv_7) sv_X7_canVote q_1064 ht0 rfl [] rfl (Nat.le_of_ble_eq_true rfl) ⟨by decide, by decide⟩ dX7_canBe_47 (z_zretP (pc := 50) hK rfl hE hg dX7_canBe_50))))
  rw [if_neg c_6] at hg
  by_cases c_8 : v_1 = 25
  · rw [if_pos c_8] at hg
    refine z_tableIn (pc := 1) hK 51 dX7_canBe_1 (by rw [c_8]; decide) (by rw [c_8]; decide) (by rw [c_8] <;> rfl) (by decide) ?_
    obtain ⟨v_9, qv_9, hg⟩ := zbind_some hg
    exact z_aload_n (pc := 51) hK 0 dX7_canBe_51 rfl (z_iload_n (pc := 52) hK 2 dX7_canBe_52 rfl (z_callVi (pc := 53) hK [.int x2] (m_X7_isAlive (zC_D hK) ht0 qv_9) sv_X7_isAlive q_883 ht0 rfl [] rfl (Nat.le_of_ble_eq_true rfl) ⟨by decide, by decide⟩ dX7_canBe_53 (z_zretP (pc := 56) hK rfl hE hg dX7_canBe_56)))
  rw [if_neg c_8] at hg
  refine z_tableOut (pc := 1) hK 57 dX7_canBe_1 (by have zc_2 := zne_k (n := 22) c_2 (by decide); have zc_4 := zne_k (n := 23) c_4 (by decide); have zc_6 := zne_k (n := 24) c_6 (by decide); have zc_8 := zne_k (n := 25) c_8 (by decide); omega) (by decide) ?_
  exact z_iconst (pc := 57) hK dX7_canBe_57 zc_i1 (z_zretP (pc := 58) hK rfl hE hg dX7_canBe_58)
theorem m_X7_canBe {l : Launch} {G : zG} (hG : zD G) {h : zH} {t0 : Nat} {x1 : Int32} {x2 : Int32} {x3 : Int32} (ht0 : zT t0 = (6, 0)) {r : Bool} (hg : g_X7_canBe h t0 x1 x2 x3 = some r) : zM l G yX7_canBe cX7_canBe 4 (some .boolean) 5 110 [.ref (G.2.2.2 t0), .int x1, .int x2, .int x3] h (some (.int (zb r))) h :=
  zM_of hG pn_X7 (Nat.le_of_ble_eq_true rfl) (fun K _ hK hE => b_X7_canBe hK ht0 hE hg)
theorem dX7_perform_0 : decode cX7_perform 0 = .ok (.iload_n 1, 1) := by decide +kernel
theorem dX7_perform_1 : decode cX7_perform 1 = .ok (.iconst 3, 1) := by decide +kernel
theorem dX7_perform_2 : decode cX7_perform 2 = .ok (.ishr, 1) := by decide +kernel
theorem dX7_perform_3 : decode cX7_perform 3 = .ok (.bipush 7, 2) := by decide +kernel
theorem dX7_perform_5 : decode cX7_perform 5 = .ok (.iand, 1) := by decide +kernel
theorem dX7_perform_6 : decode cX7_perform 6 = .ok (.istore_n 2, 1) := by decide +kernel
theorem dX7_perform_7 : decode cX7_perform 7 = .ok (.iload_n 1, 1) := by decide +kernel
theorem dX7_perform_8 : decode cX7_perform 8 = .ok (.bipush 7, 2) := by decide +kernel
theorem dX7_perform_10 : decode cX7_perform 10 = .ok (.iand, 1) := by decide +kernel
theorem dX7_perform_11 : decode cX7_perform 11 = .ok (.istore_n 3, 1) := by decide +kernel
theorem dX7_perform_12 : decode cX7_perform 12 = .ok (.iload_n 1, 1) := by decide +kernel
theorem dX7_perform_13 : decode cX7_perform 13 = .ok (.bipush 6, 2) := by decide +kernel
theorem dX7_perform_15 : decode cX7_perform 15 = .ok (.ishr, 1) := by decide +kernel
theorem dX7_perform_16 : decode cX7_perform 16 = .ok (.istore 4, 2) := by decide +kernel
theorem dX7_perform_18 : decode cX7_perform 18 = .ok (.aload_n 0, 1) := by decide +kernel
theorem dX7_perform_19 : decode cX7_perform 19 = .ok (.iload 4, 2) := by decide +kernel
theorem dX7_perform_21 : decode cX7_perform 21 = .ok (.iload_n 2, 1) := by decide +kernel
theorem dX7_perform_22 : decode cX7_perform 22 = .ok (.iload_n 3, 1) := by decide +kernel
theorem dX7_perform_23 : decode cX7_perform 23 = .ok (.invokevirtual 135, 3) := by decide +kernel
theorem dX7_perform_26 : decode cX7_perform 26 = .ok (.ifCond .ne 5, 3) := by decide +kernel
theorem dX7_perform_29 : decode cX7_perform 29 = .ok (.iconst 0, 1) := by decide +kernel
theorem dX7_perform_30 : decode cX7_perform 30 = .ok (.ireturn, 1) := by decide +kernel
theorem dX7_perform_31 : decode cX7_perform 31 = .ok (.iload 4, 2) := by decide +kernel
theorem dX7_perform_33 : decode cX7_perform 33 = .ok (.tableswitch 67 22 25 #[31, 39, 49, 58], 31) := by decide +kernel
theorem dX7_perform_64 : decode cX7_perform 64 = .ok (.aload_n 0, 1) := by decide +kernel
theorem dX7_perform_65 : decode cX7_perform 65 = .ok (.invokevirtual 129, 3) := by decide +kernel
theorem dX7_perform_68 : decode cX7_perform 68 = .ok (.pop, 1) := by decide +kernel
theorem dX7_perform_69 : decode cX7_perform 69 = .ok (.goto 43, 3) := by decide +kernel
theorem dX7_perform_72 : decode cX7_perform 72 = .ok (.aload_n 0, 1) := by decide +kernel
theorem dX7_perform_73 : decode cX7_perform 73 = .ok (.iload_n 2, 1) := by decide +kernel
theorem dX7_perform_74 : decode cX7_perform 74 = .ok (.iload_n 3, 1) := by decide +kernel
theorem dX7_perform_75 : decode cX7_perform 75 = .ok (.invokevirtual 139, 3) := by decide +kernel
theorem dX7_perform_78 : decode cX7_perform 78 = .ok (.pop, 1) := by decide +kernel
theorem dX7_perform_79 : decode cX7_perform 79 = .ok (.goto 33, 3) := by decide +kernel
theorem dX7_perform_82 : decode cX7_perform 82 = .ok (.aload_n 0, 1) := by decide +kernel
theorem dX7_perform_83 : decode cX7_perform 83 = .ok (.iload_n 2, 1) := by decide +kernel
theorem dX7_perform_84 : decode cX7_perform 84 = .ok (.iload_n 3, 1) := by decide +kernel
theorem dX7_perform_85 : decode cX7_perform 85 = .ok (.invokevirtual 122, 3) := by decide +kernel
theorem dX7_perform_88 : decode cX7_perform 88 = .ok (.goto 24, 3) := by decide +kernel
theorem dX7_perform_91 : decode cX7_perform 91 = .ok (.aload_n 0, 1) := by decide +kernel
theorem dX7_perform_92 : decode cX7_perform 92 = .ok (.iload_n 2, 1) := by decide +kernel
theorem dX7_perform_93 : decode cX7_perform 93 = .ok (.invokevirtual 142, 3) := by decide +kernel
theorem dX7_perform_96 : decode cX7_perform 96 = .ok (.pop, 1) := by decide +kernel
theorem dX7_perform_97 : decode cX7_perform 97 = .ok (.goto 15, 3) := by decide +kernel
theorem dX7_perform_100 : decode cX7_perform 100 = .ok (.aload_n 0, 1) := by decide +kernel
theorem dX7_perform_101 : decode cX7_perform 101 = .ok (.aload_n 0, 1) := by decide +kernel
theorem dX7_perform_102 : decode cX7_perform 102 = .ok (.getfield 21, 3) := by decide +kernel
theorem dX7_perform_105 : decode cX7_perform 105 = .ok (.getfield 145, 3) := by decide +kernel
theorem dX7_perform_108 : decode cX7_perform 108 = .ok (.invokevirtual 132, 3) := by decide +kernel
theorem dX7_perform_111 : decode cX7_perform 111 = .ok (.pop, 1) := by decide +kernel
theorem dX7_perform_112 : decode cX7_perform 112 = .ok (.iconst 1, 1) := by decide +kernel
theorem dX7_perform_113 : decode cX7_perform 113 = .ok (.ireturn, 1) := by decide +kernel
def g_X7_perform (h : zH) (t0 : Nat) (x1 : Int32) : Option (Bool × zH) := zlet ((x1 >>> (3 &&& 31)) &&& 7) fun v_1 => zlet (x1 >>> (6 &&& 31)) fun v_2 => (g_X7_canBe h t0 v_2 v_1 (x1 &&& 7)).bind fun v_3 => if (zb v_3) = 0 then (some (false, h)) else (zlet (v_2) fun v_5 => if v_5 = 22 then ((g_X7_levy h t0).bind fun v_7 => some (true, v_7.2)) else if v_5 = 23 then ((g_X7_give h t0 v_1 (x1 &&& 7)).bind fun v_9 => some (true, v_9.2)) else if v_5 = 24 then ((g_X7_vote h t0 v_1 (x1 &&& 7)).bind fun v_11 => some (true, v_11)) else if v_5 = 25 then ((g_X7_bury h t0 v_1).bind fun v_13 => some (true, v_13.2)) else (g_X7_passDay h t0 (h.1 (zR t0 0) 8)).bind fun v_14 => some (true, v_14.2))
set_option maxRecDepth 100000 in
set_option maxHeartbeats 4000000 in
theorem b_X7_perform {K : zK} {G : zG} (hK : zC K G cX7_perform RX7 5 6 133 (some .boolean)) {h : zH} {t0 : Nat} {x1 : Int32} (ht0 : zT t0 = (6, 0)) {r : Bool × zH} (hE : zE K G (some (.int (zb r.1))) r.2) (hg : g_X7_perform h t0 x1 = some r) : zW K G 5 0 [(0, .ref (G.2.2.2 t0)), (1, .int x1)] [] h := by
  rw [g_X7_perform] at hg
  obtain ⟨v_1, ev_1, hg⟩ := zlet_some hg
  obtain ⟨v_2, ev_2, hg⟩ := zlet_some hg
  obtain ⟨v_3, qv_3, hg⟩ := zbind_some hg
  refine z_iload_n (pc := 0) hK 1 dX7_perform_0 rfl (z_iconst (pc := 1) hK dX7_perform_1 zc_i3 (z_ishr (pc := 2) hK dX7_perform_2 (z_bipush (pc := 3) hK dX7_perform_3 zc_b7 (z_iand (pc := 5) hK dX7_perform_5 (z_nameI ev_1 (z_istore_n (pc := 6) hK (lv' := [(2, .int v_1), (0, .ref (G.2.2.2 t0)), (1, .int x1)]) dX7_perform_6 (by decide) rfl (z_iload_n (pc := 7) hK 2 dX7_perform_7 rfl (z_bipush (pc := 8) hK dX7_perform_8 zc_b7 (z_iand (pc := 10) hK dX7_perform_10 (z_istore_n (pc := 11) hK (lv' := [(3, .int (x1 &&& 7)), (2, .int v_1), (0, .ref (G.2.2.2 t0)), (1, .int x1)]) dX7_perform_11 (by decide) rfl (z_iload_n (pc := 12) hK 3 dX7_perform_12 rfl (z_bipush (pc := 13) hK dX7_perform_13 zc_b6 (z_ishr (pc := 15) hK dX7_perform_15 (z_nameI ev_2 (z_istore (pc := 16) hK (lv' := [(4, .int v_2), (3, .int (x1 &&& 7)), (2, .int v_1), (0, .ref (G.2.2.2 t0)), (1, .int x1)]) dX7_perform_16 (by decide) rfl (z_aload_n (pc := 18) hK 3 dX7_perform_18 rfl (z_iload (pc := 19) hK 0 dX7_perform_19 rfl (z_iload_n (pc := 21) hK 2 dX7_perform_21 rfl (z_iload_n (pc := 22) hK 1 dX7_perform_22 rfl (z_callVi (pc := 23) hK [.int v_2, .int v_1, .int (x1 &&& 7)] (m_X7_canBe (zC_D hK) ht0 qv_3) sv_X7_canBe q_1059 ht0 rfl [] rfl (Nat.le_of_ble_eq_true rfl) ⟨by decide, by decide⟩ dX7_perform_23 (z_if_ne (pc := 26) hK 31 dX7_perform_26 (by decide) (fun c_4 => ?_) (fun c_4 => ?_))))))))))))))))))))))
  · rw [if_neg c_4] at hg
    obtain ⟨v_5, ev_5, hg⟩ := zlet_some hg
    refine z_iload (pc := 31) hK 0 dX7_perform_31 rfl (z_nameI ev_5 ?_)
    by_cases c_6 : v_5 = 22
    · rw [if_pos c_6] at hg
      refine z_tableIn (pc := 33) hK 64 dX7_perform_33 (by rw [c_6]; decide) (by rw [c_6]; decide) (by rw [c_6] <;> rfl) (by decide) ?_
      obtain ⟨v_7, qv_7, hg⟩ := zbind_some hg
      exact z_aload_n (pc := 64) hK 3 dX7_perform_64 rfl (z_callVi (pc := 65) hK [] (m_X7_levy (zC_D hK) ht0 qv_7) sv_X7_levy q_1065 ht0 rfl [] rfl (Nat.le_of_ble_eq_true rfl) ⟨by decide, by decide⟩ dX7_perform_65 (z_pop (pc := 68) hK dX7_perform_68 rfl (z_goto (pc := 69) hK 112 dX7_perform_69 (by decide) (z_iconst (pc := 112) hK dX7_perform_112 zc_i1 (z_zretE (pc := 113) hK rfl hE hg dX7_perform_113)))))
    rw [if_neg c_6] at hg
    by_cases c_8 : v_5 = 23
    · rw [if_pos c_8] at hg
      refine z_tableIn (pc := 33) hK 72 dX7_perform_33 (by rw [c_8]; decide) (by rw [c_8]; decide) (by rw [c_8] <;> rfl) (by decide) ?_
      obtain ⟨v_9, qv_9, hg⟩ := zbind_some hg
      exact z_aload_n (pc := 72) hK 3 dX7_perform_72 rfl (z_iload_n (pc := 73) hK 2 dX7_perform_73 rfl (z_iload_n (pc := 74) hK 1 dX7_perform_74 rfl (z_callVi (pc := 75) hK [.int v_1, .int (x1 &&& 7)] (m_X7_give (zC_D hK) ht0 qv_9) sv_X7_give q_1066 ht0 rfl [] rfl (Nat.le_of_ble_eq_true rfl) ⟨by decide, by decide⟩ dX7_perform_75 (z_pop (pc := 78) hK dX7_perform_78 rfl (z_goto (pc := 79) hK 112 dX7_perform_79 (by decide) (z_iconst (pc := 112) hK dX7_perform_112 zc_i1 (z_zretE (pc := 113) hK rfl hE hg dX7_perform_113)))))))
    rw [if_neg c_8] at hg
    by_cases c_10 : v_5 = 24
    · rw [if_pos c_10] at hg
      refine z_tableIn (pc := 33) hK 82 dX7_perform_33 (by rw [c_10]; decide) (by rw [c_10]; decide) (by rw [c_10] <;> rfl) (by decide) ?_
      obtain ⟨v_11, qv_11, hg⟩ := zbind_some hg
      exact z_aload_n (pc := 82) hK 3 dX7_perform_82 rfl (z_iload_n (pc := 83) hK 2 dX7_perform_83 rfl (z_iload_n (pc := 84) hK 1 dX7_perform_84 rfl (z_callVv (pc := 85) hK [.int v_1, .int (x1 &&& 7)] (m_X7_vote (zC_D hK) ht0 qv_11) sv_X7_vote q_1041 ht0 rfl [] rfl (Nat.le_of_ble_eq_true rfl) ⟨by decide, by decide⟩ dX7_perform_85 (z_goto (pc := 88) hK 112 dX7_perform_88 (by decide) (z_iconst (pc := 112) hK dX7_perform_112 zc_i1 (z_zretE (pc := 113) hK rfl hE hg dX7_perform_113))))))
    rw [if_neg c_10] at hg
    by_cases c_12 : v_5 = 25
    · rw [if_pos c_12] at hg
      refine z_tableIn (pc := 33) hK 91 dX7_perform_33 (by rw [c_12]; decide) (by rw [c_12]; decide) (by rw [c_12] <;> rfl) (by decide) ?_
      obtain ⟨v_13, qv_13, hg⟩ := zbind_some hg
      exact z_aload_n (pc := 91) hK 3 dX7_perform_91 rfl (z_iload_n (pc := 92) hK 2 dX7_perform_92 rfl (z_callVi (pc := 93) hK [.int v_1] (m_X7_bury (zC_D hK) ht0 qv_13) sv_X7_bury q_1067 ht0 rfl [] rfl (Nat.le_of_ble_eq_true rfl) ⟨by decide, by decide⟩ dX7_perform_93 (z_pop (pc := 96) hK dX7_perform_96 rfl (z_goto (pc := 97) hK 112 dX7_perform_97 (by decide) (z_iconst (pc := 112) hK dX7_perform_112 zc_i1 (z_zretE (pc := 113) hK rfl hE hg dX7_perform_113))))))
    rw [if_neg c_12] at hg
    refine z_tableOut (pc := 33) hK 100 dX7_perform_33 (by have zc_6 := zne_k (n := 22) c_6 (by decide); have zc_8 := zne_k (n := 23) c_8 (by decide); have zc_10 := zne_k (n := 24) c_10 (by decide); have zc_12 := zne_k (n := 25) c_12 (by decide); omega) (by decide) ?_
    obtain ⟨v_14, qv_14, hg⟩ := zbind_some hg
    exact z_aload_n (pc := 100) hK 3 dX7_perform_100 rfl (z_aload_n (pc := 101) hK 3 dX7_perform_101 rfl (z_getR (pc := 102) hK f_X7_21_6 ht0 dX7_perform_102 (z_getI (pc := 105) hK f_X7_145_4 (zt_6_0 ht0) dX7_perform_105 (z_callVi (pc := 108) hK [.int (h.1 (zR t0 0) 8)] (m_X7_passDay (zC_D hK) ht0 qv_14) sv_X7_passDay q_1068 ht0 rfl [] rfl (Nat.le_of_ble_eq_true rfl) ⟨by decide, by decide⟩ dX7_perform_108 (z_pop (pc := 111) hK dX7_perform_111 rfl (z_iconst (pc := 112) hK dX7_perform_112 zc_i1 (z_zretE (pc := 113) hK rfl hE hg dX7_perform_113)))))))
  · rw [if_pos c_4] at hg
    exact z_iconst (pc := 29) hK dX7_perform_29 zc_i0 (z_zretE (pc := 30) hK rfl hE hg dX7_perform_30)
theorem m_X7_perform {l : Launch} {G : zG} (hG : zD G) {h : zH} {t0 : Nat} {x1 : Int32} (ht0 : zT t0 = (6, 0)) {r : Bool × zH} (hg : g_X7_perform h t0 x1 = some r) : zM l G yX7_perform cX7_perform 5 (some .boolean) 6 133 [.ref (G.2.2.2 t0), .int x1] h (some (.int (zb r.1))) r.2 :=
  zM_of hG pn_X7 (Nat.le_of_ble_eq_true rfl) (fun K _ hK hE => b_X7_perform hK ht0 hE hg)
theorem dX7_isThreat_0 : decode cX7_isThreat 0 = .ok (.aload_n 0, 1) := by decide +kernel
theorem dX7_isThreat_1 : decode cX7_isThreat 1 = .ok (.iload_n 1, 1) := by decide +kernel
theorem dX7_isThreat_2 : decode cX7_isThreat 2 = .ok (.invokevirtual 60, 3) := by decide +kernel
theorem dX7_isThreat_5 : decode cX7_isThreat 5 = .ok (.ifCond .eq 39, 3) := by decide +kernel
theorem dX7_isThreat_8 : decode cX7_isThreat 8 = .ok (.aload_n 0, 1) := by decide +kernel
theorem dX7_isThreat_9 : decode cX7_isThreat 9 = .ok (.getfield 18, 3) := by decide +kernel
theorem dX7_isThreat_12 : decode cX7_isThreat 12 = .ok (.iload_n 1, 1) := by decide +kernel
theorem dX7_isThreat_13 : decode cX7_isThreat 13 = .ok (.iaload, 1) := by decide +kernel
theorem dX7_isThreat_14 : decode cX7_isThreat 14 = .ok (.ifCond .le 30, 3) := by decide +kernel
theorem dX7_isThreat_17 : decode cX7_isThreat 17 = .ok (.aload_n 0, 1) := by decide +kernel
theorem dX7_isThreat_18 : decode cX7_isThreat 18 = .ok (.iload_n 1, 1) := by decide +kernel
theorem dX7_isThreat_19 : decode cX7_isThreat 19 = .ok (.invokevirtual 154, 3) := by decide +kernel
theorem dX7_isThreat_22 : decode cX7_isThreat 22 = .ok (.iload_n 2, 1) := by decide +kernel
theorem dX7_isThreat_23 : decode cX7_isThreat 23 = .ok (.if_icmp .ne 21, 3) := by decide +kernel
theorem dX7_isThreat_26 : decode cX7_isThreat 26 = .ok (.aload_n 0, 1) := by decide +kernel
theorem dX7_isThreat_27 : decode cX7_isThreat 27 = .ok (.getfield 9, 3) := by decide +kernel
theorem dX7_isThreat_30 : decode cX7_isThreat 30 = .ok (.iload_n 1, 1) := by decide +kernel
theorem dX7_isThreat_31 : decode cX7_isThreat 31 = .ok (.bipush 7, 2) := by decide +kernel
theorem dX7_isThreat_33 : decode cX7_isThreat 33 = .ok (.imul, 1) := by decide +kernel
theorem dX7_isThreat_34 : decode cX7_isThreat 34 = .ok (.iload_n 2, 1) := by decide +kernel
theorem dX7_isThreat_35 : decode cX7_isThreat 35 = .ok (.iadd, 1) := by decide +kernel
theorem dX7_isThreat_36 : decode cX7_isThreat 36 = .ok (.iaload, 1) := by decide +kernel
theorem dX7_isThreat_37 : decode cX7_isThreat 37 = .ok (.ifCond .le 7, 3) := by decide +kernel
theorem dX7_isThreat_40 : decode cX7_isThreat 40 = .ok (.iconst 1, 1) := by decide +kernel
theorem dX7_isThreat_41 : decode cX7_isThreat 41 = .ok (.goto 4, 3) := by decide +kernel
theorem dX7_isThreat_44 : decode cX7_isThreat 44 = .ok (.iconst 0, 1) := by decide +kernel
theorem dX7_isThreat_45 : decode cX7_isThreat 45 = .ok (.ireturn, 1) := by decide +kernel
def g_X7_isThreat (h : zH) (t0 : Nat) (x1 : Int32) (x2 : Int32) : Option Bool := (g_X7_isAlive h t0 x1).bind fun v_1 => if (zb v_1) = 0 then (some false) else (zgu (zin x1 7) <| if (h.1 (zR t0 3) (zx x1)) ≤ 0 then (some false) else ((g_X7_worst h t0 x1).bind fun v_5 => if v_5 = x2 then (zgu (zin ((x1 * 7) + x2) 49) <| if (h.1 (zR t0 1) (zx ((x1 * 7) + x2))) ≤ 0 then (some false) else (some true)) else (some false)))
set_option maxRecDepth 100000 in
set_option maxHeartbeats 4000000 in
theorem b_X7_isThreat {K : zK} {G : zG} (hK : zC K G cX7_isThreat RX7 3 2 46 (some .boolean)) {h : zH} {t0 : Nat} {x1 : Int32} {x2 : Int32} (ht0 : zT t0 = (6, 0)) {r : Bool} (hE : zE K G (some (.int (zb r))) h) (hg : g_X7_isThreat h t0 x1 x2 = some r) : zW K G 3 0 [(0, .ref (G.2.2.2 t0)), (1, .int x1), (2, .int x2)] [] h := by
  rw [g_X7_isThreat] at hg
  obtain ⟨v_1, qv_1, hg⟩ := zbind_some hg
  refine z_aload_n (pc := 0) hK 0 dX7_isThreat_0 rfl (z_iload_n (pc := 1) hK 1 dX7_isThreat_1 rfl (z_callVi (pc := 2) hK [.int x1] (m_X7_isAlive (zC_D hK) ht0 qv_1) sv_X7_isAlive q_883 ht0 rfl [] rfl (Nat.le_of_ble_eq_true rfl) ⟨by decide, by decide⟩ dX7_isThreat_2 (z_if_eq (pc := 5) hK 44 dX7_isThreat_5 (by decide) (fun c_2 => ?_) (fun c_2 => ?_))))
  · rw [if_pos c_2] at hg
    exact z_iconst (pc := 44) hK dX7_isThreat_44 zc_i0 (z_zretP (pc := 45) hK rfl hE hg dX7_isThreat_45)
  · rw [if_neg c_2] at hg
    obtain ⟨c_3, hg⟩ := zgu_some hg
    refine z_aload_n (pc := 8) hK 0 dX7_isThreat_8 rfl (z_getR (pc := 9) hK f_X7_18_6 ht0 dX7_isThreat_9 (z_iload_n (pc := 12) hK 1 dX7_isThreat_12 rfl (z_iald (pc := 13) hK (zt_6_3 ht0) c_3 dX7_isThreat_13 (z_if_le (pc := 14) hK 44 dX7_isThreat_14 (by decide) (fun c_4 => ?_) (fun c_4 => ?_)))))
    · rw [if_pos c_4] at hg
      exact z_iconst (pc := 44) hK dX7_isThreat_44 zc_i0 (z_zretP (pc := 45) hK rfl hE hg dX7_isThreat_45)
    · rw [if_neg c_4] at hg
      obtain ⟨v_5, qv_5, hg⟩ := zbind_some hg
      refine z_aload_n (pc := 17) hK 0 dX7_isThreat_17 rfl (z_iload_n (pc := 18) hK 1 dX7_isThreat_18 rfl (z_callVi (pc := 19) hK [.int x1] (m_X7_worst (zC_D hK) ht0 qv_5) sv_X7_worst q_1032 ht0 rfl [] rfl (Nat.le_of_ble_eq_true rfl) ⟨by decide, by decide⟩ dX7_isThreat_19 (z_iload_n (pc := 22) hK 2 dX7_isThreat_22 rfl (z_icmp_ne (pc := 23) hK 44 dX7_isThreat_23 (by decide) (fun c_6 => ?_) (fun c_6 => ?_)))))
      · rw [if_neg c_6] at hg
        exact z_iconst (pc := 44) hK dX7_isThreat_44 zc_i0 (z_zretP (pc := 45) hK rfl hE hg dX7_isThreat_45)
      · rw [if_pos c_6] at hg
        obtain ⟨c_7, hg⟩ := zgu_some hg
        refine z_aload_n (pc := 26) hK 0 dX7_isThreat_26 rfl (z_getR (pc := 27) hK f_X7_9_6 ht0 dX7_isThreat_27 (z_iload_n (pc := 30) hK 1 dX7_isThreat_30 rfl (z_bipush (pc := 31) hK dX7_isThreat_31 zc_b7 (z_imul (pc := 33) hK dX7_isThreat_33 (z_iload_n (pc := 34) hK 2 dX7_isThreat_34 rfl (z_iadd (pc := 35) hK dX7_isThreat_35 (z_iald (pc := 36) hK (zt_6_1 ht0) c_7 dX7_isThreat_36 (z_if_le (pc := 37) hK 44 dX7_isThreat_37 (by decide) (fun c_8 => ?_) (fun c_8 => ?_)))))))))
        · rw [if_pos c_8] at hg
          exact z_iconst (pc := 44) hK dX7_isThreat_44 zc_i0 (z_zretP (pc := 45) hK rfl hE hg dX7_isThreat_45)
        · rw [if_neg c_8] at hg
          exact z_iconst (pc := 40) hK dX7_isThreat_40 zc_i1 (z_goto (pc := 41) hK 45 dX7_isThreat_41 (by decide) (z_zretP (pc := 45) hK rfl hE hg dX7_isThreat_45))
theorem m_X7_isThreat {l : Launch} {G : zG} (hG : zD G) {h : zH} {t0 : Nat} {x1 : Int32} {x2 : Int32} (ht0 : zT t0 = (6, 0)) {r : Bool} (hg : g_X7_isThreat h t0 x1 x2 = some r) : zM l G yX7_isThreat cX7_isThreat 3 (some .boolean) 2 46 [.ref (G.2.2.2 t0), .int x1, .int x2] h (some (.int (zb r))) h :=
  zM_of hG pn_X7 (Nat.le_of_ble_eq_true rfl) (fun K _ hK hE => b_X7_isThreat hK ht0 hE hg)
theorem dX7_votesLeft_0 : decode cX7_votesLeft 0 = .ok (.iconst 0, 1) := by decide +kernel
theorem dX7_votesLeft_1 : decode cX7_votesLeft 1 = .ok (.istore_n 1, 1) := by decide +kernel
theorem dX7_votesLeft_2 : decode cX7_votesLeft 2 = .ok (.iconst 0, 1) := by decide +kernel
theorem dX7_votesLeft_3 : decode cX7_votesLeft 3 = .ok (.istore_n 2, 1) := by decide +kernel
theorem dX7_votesLeft_4 : decode cX7_votesLeft 4 = .ok (.iload_n 2, 1) := by decide +kernel
theorem dX7_votesLeft_5 : decode cX7_votesLeft 5 = .ok (.aload_n 0, 1) := by decide +kernel
theorem dX7_votesLeft_6 : decode cX7_votesLeft 6 = .ok (.getfield 21, 3) := by decide +kernel
theorem dX7_votesLeft_9 : decode cX7_votesLeft 9 = .ok (.getfield 40, 3) := by decide +kernel
theorem dX7_votesLeft_12 : decode cX7_votesLeft 12 = .ok (.if_icmp .ge 30, 3) := by decide +kernel
theorem dX7_votesLeft_15 : decode cX7_votesLeft 15 = .ok (.iload_n 1, 1) := by decide +kernel
theorem dX7_votesLeft_16 : decode cX7_votesLeft 16 = .ok (.aload_n 0, 1) := by decide +kernel
theorem dX7_votesLeft_17 : decode cX7_votesLeft 17 = .ok (.iload_n 2, 1) := by decide +kernel
theorem dX7_votesLeft_18 : decode cX7_votesLeft 18 = .ok (.invokevirtual 60, 3) := by decide +kernel
theorem dX7_votesLeft_21 : decode cX7_votesLeft 21 = .ok (.ifCond .eq 12, 3) := by decide +kernel
theorem dX7_votesLeft_24 : decode cX7_votesLeft 24 = .ok (.aload_n 0, 1) := by decide +kernel
theorem dX7_votesLeft_25 : decode cX7_votesLeft 25 = .ok (.getfield 18, 3) := by decide +kernel
theorem dX7_votesLeft_28 : decode cX7_votesLeft 28 = .ok (.iload_n 2, 1) := by decide +kernel
theorem dX7_votesLeft_29 : decode cX7_votesLeft 29 = .ok (.iaload, 1) := by decide +kernel
theorem dX7_votesLeft_30 : decode cX7_votesLeft 30 = .ok (.goto 4, 3) := by decide +kernel
theorem dX7_votesLeft_33 : decode cX7_votesLeft 33 = .ok (.iconst 0, 1) := by decide +kernel
theorem dX7_votesLeft_34 : decode cX7_votesLeft 34 = .ok (.iadd, 1) := by decide +kernel
theorem dX7_votesLeft_35 : decode cX7_votesLeft 35 = .ok (.istore_n 1, 1) := by decide +kernel
theorem dX7_votesLeft_36 : decode cX7_votesLeft 36 = .ok (.iinc 2 1, 3) := by decide +kernel
theorem dX7_votesLeft_39 : decode cX7_votesLeft 39 = .ok (.goto (-35), 3) := by decide +kernel
theorem dX7_votesLeft_42 : decode cX7_votesLeft 42 = .ok (.iload_n 1, 1) := by decide +kernel
theorem dX7_votesLeft_43 : decode cX7_votesLeft 43 = .ok (.ireturn, 1) := by decide +kernel
def g_X7_votesLeft_4 (h : zH) (t0 : Nat)  : Nat → Int32 → Int32 → Option Int32
  | 0, _, _ => none
  | n + 1, x1, x2 => if (h.1 (zR t0 0) 7) ≤ x2 then (some x1) else ((g_X7_isAlive h t0 x2).bind fun v_2 => if (zb v_2) = 0 then (g_X7_votesLeft_4 h t0 n (x1 + 0) (x2 + 1)) else (zgu (zin x2 7) <| zlet (x1 + (h.1 (zR t0 3) (zx x2))) fun v_5 => g_X7_votesLeft_4 h t0 n v_5 (x2 + 1)))
def g_X7_votesLeft (h : zH) (t0 : Nat) : Option Int32 := g_X7_votesLeft_4 h t0 zfu 0 0
set_option maxRecDepth 100000 in
set_option maxHeartbeats 4000000 in
theorem b_X7_votesLeft_4 {K : zK} {G : zG} (hK : zC K G cX7_votesLeft RX7 3 1 21 (some .int)) {h : zH} {t0 : Nat} (ht0 : zT t0 = (6, 0)) {r : Int32} (hE : zE K G (some (.int r)) h) : ∀ (n : Nat) (x1 : Int32) (x2 : Int32), g_X7_votesLeft_4 h t0 n x1 x2 = some r → zW K G 3 4 [(0, .ref (G.2.2.2 t0)), (1, .int x1), (2, .int x2)] [] h := by
  intro n
  induction n with
  | zero => intro x1 x2 hg; exact nomatch (show none = some r from hg)
  | succ n ih =>
    intro x1 x2 hg
    rw [g_X7_votesLeft_4] at hg
    refine z_iload_n (pc := 4) hK 2 dX7_votesLeft_4 rfl (z_aload_n (pc := 5) hK 0 dX7_votesLeft_5 rfl (z_getR (pc := 6) hK f_X7_21_6 ht0 dX7_votesLeft_6 (z_getI (pc := 9) hK f_X7_40_4 (zt_6_0 ht0) dX7_votesLeft_9 (z_icmp_ge (pc := 12) hK 42 dX7_votesLeft_12 (by decide) (fun c_1 => ?_) (fun c_1 => ?_)))))
    · rw [if_pos c_1] at hg
      exact z_iload_n (pc := 42) hK 1 dX7_votesLeft_42 rfl (z_iretP (pc := 43) hK hE hg dX7_votesLeft_43)
    · rw [if_neg c_1] at hg
      obtain ⟨v_2, qv_2, hg⟩ := zbind_some hg
      refine z_iload_n (pc := 15) hK 1 dX7_votesLeft_15 rfl (z_aload_n (pc := 16) hK 0 dX7_votesLeft_16 rfl (z_iload_n (pc := 17) hK 2 dX7_votesLeft_17 rfl (z_callVi (pc := 18) hK [.int x2] (m_X7_isAlive (zC_D hK) ht0 qv_2) sv_X7_isAlive q_883 ht0 rfl [.int x1] rfl (Nat.le_of_ble_eq_true rfl) ⟨by decide, by decide⟩ dX7_votesLeft_18 (z_if_eq (pc := 21) hK 33 dX7_votesLeft_21 (by decide) (fun c_3 => ?_) (fun c_3 => ?_)))))
      · rw [if_pos c_3] at hg
        exact z_iconst (pc := 33) hK dX7_votesLeft_33 zc_i0 (z_iadd (pc := 34) hK dX7_votesLeft_34 (z_istore_n (pc := 35) hK (lv' := [(1, .int (x1 + 0)), (0, .ref (G.2.2.2 t0)), (2, .int x2)]) dX7_votesLeft_35 (by decide) rfl (z_iinc (pc := 36) hK 2 (lv' := [(2, .int (x2 + 1)), (1, .int (x1 + 0)), (0, .ref (G.2.2.2 t0))]) dX7_votesLeft_36 rfl (zc_n1 _) (by decide) rfl (z_goto (pc := 39) hK 4 dX7_votesLeft_39 (by decide) (zsub (lv' := [(0, .ref (G.2.2.2 t0)), (1, .int (x1 + 0)), (2, .int (x2 + 1))]) [2, 1, 0] rfl (ih (x1 + 0) (x2 + 1) hg))))))
      · rw [if_neg c_3] at hg
        obtain ⟨c_4, hg⟩ := zgu_some hg
        obtain ⟨v_5, ev_5, hg⟩ := zlet_some hg
        exact z_aload_n (pc := 24) hK 0 dX7_votesLeft_24 rfl (z_getR (pc := 25) hK f_X7_18_6 ht0 dX7_votesLeft_25 (z_iload_n (pc := 28) hK 2 dX7_votesLeft_28 rfl (z_iald (pc := 29) hK (zt_6_3 ht0) c_4 dX7_votesLeft_29 (z_goto (pc := 30) hK 34 dX7_votesLeft_30 (by decide) (z_iadd (pc := 34) hK dX7_votesLeft_34 (z_nameI ev_5 (z_istore_n (pc := 35) hK (lv' := [(1, .int v_5), (0, .ref (G.2.2.2 t0)), (2, .int x2)]) dX7_votesLeft_35 (by decide) rfl (z_iinc (pc := 36) hK 2 (lv' := [(2, .int (x2 + 1)), (1, .int v_5), (0, .ref (G.2.2.2 t0))]) dX7_votesLeft_36 rfl (zc_n1 _) (by decide) rfl (z_goto (pc := 39) hK 4 dX7_votesLeft_39 (by decide) (zsub (lv' := [(0, .ref (G.2.2.2 t0)), (1, .int v_5), (2, .int (x2 + 1))]) [2, 1, 0] rfl (ih v_5 (x2 + 1) hg)))))))))))
set_option maxRecDepth 100000 in
set_option maxHeartbeats 4000000 in
theorem b_X7_votesLeft {K : zK} {G : zG} (hK : zC K G cX7_votesLeft RX7 3 1 21 (some .int)) {h : zH} {t0 : Nat} (ht0 : zT t0 = (6, 0)) {r : Int32} (hE : zE K G (some (.int r)) h) (hg : g_X7_votesLeft h t0 = some r) : zW K G 3 0 [(0, .ref (G.2.2.2 t0))] [] h := by
  rw [g_X7_votesLeft] at hg
  exact z_iconst (pc := 0) hK dX7_votesLeft_0 zc_i0 (z_istore_n (pc := 1) hK (lv' := [(1, .int 0), (0, .ref (G.2.2.2 t0))]) dX7_votesLeft_1 (by decide) rfl (z_iconst (pc := 2) hK dX7_votesLeft_2 zc_i0 (z_istore_n (pc := 3) hK (lv' := [(2, .int 0), (1, .int 0), (0, .ref (G.2.2.2 t0))]) dX7_votesLeft_3 (by decide) rfl (zsub (lv' := [(0, .ref (G.2.2.2 t0)), (1, .int 0), (2, .int 0)]) [2, 1, 0] rfl (b_X7_votesLeft_4 hK ht0 hE zfu 0 0 hg)))))
theorem m_X7_votesLeft {l : Launch} {G : zG} (hG : zD G) {h : zH} {t0 : Nat} (ht0 : zT t0 = (6, 0)) {r : Int32} (hg : g_X7_votesLeft h t0 = some r) : zM l G yX7_votesLeft cX7_votesLeft 3 (some .int) 1 21 [.ref (G.2.2.2 t0)] h (some (.int r)) h :=
  zM_of hG pn_X7 (Nat.le_of_ble_eq_true rfl) (fun K _ hK hE => b_X7_votesLeft hK ht0 hE hg)
theorem dX7_votesToBring_0 : decode cX7_votesToBring 0 = .ok (.aload_n 0, 1) := by decide +kernel
theorem dX7_votesToBring_1 : decode cX7_votesToBring 1 = .ok (.invokevirtual 160, 3) := by decide +kernel
theorem dX7_votesToBring_4 : decode cX7_votesToBring 4 = .ok (.aload_n 0, 1) := by decide +kernel
theorem dX7_votesToBring_5 : decode cX7_votesToBring 5 = .ok (.getfield 18, 3) := by decide +kernel
theorem dX7_votesToBring_8 : decode cX7_votesToBring 8 = .ok (.iload_n 1, 1) := by decide +kernel
theorem dX7_votesToBring_9 : decode cX7_votesToBring 9 = .ok (.iaload, 1) := by decide +kernel
theorem dX7_votesToBring_10 : decode cX7_votesToBring 10 = .ok (.isub, 1) := by decide +kernel
theorem dX7_votesToBring_11 : decode cX7_votesToBring 11 = .ok (.istore_n 2, 1) := by decide +kernel
theorem dX7_votesToBring_12 : decode cX7_votesToBring 12 = .ok (.iconst 0, 1) := by decide +kernel
theorem dX7_votesToBring_13 : decode cX7_votesToBring 13 = .ok (.istore_n 3, 1) := by decide +kernel
theorem dX7_votesToBring_14 : decode cX7_votesToBring 14 = .ok (.iconst 0, 1) := by decide +kernel
theorem dX7_votesToBring_15 : decode cX7_votesToBring 15 = .ok (.istore 4, 2) := by decide +kernel
theorem dX7_votesToBring_17 : decode cX7_votesToBring 17 = .ok (.iload 4, 2) := by decide +kernel
theorem dX7_votesToBring_19 : decode cX7_votesToBring 19 = .ok (.aload_n 0, 1) := by decide +kernel
theorem dX7_votesToBring_20 : decode cX7_votesToBring 20 = .ok (.getfield 21, 3) := by decide +kernel
theorem dX7_votesToBring_23 : decode cX7_votesToBring 23 = .ok (.getfield 40, 3) := by decide +kernel
theorem dX7_votesToBring_26 : decode cX7_votesToBring 26 = .ok (.if_icmp .ge 54, 3) := by decide +kernel
theorem dX7_votesToBring_29 : decode cX7_votesToBring 29 = .ok (.aload_n 0, 1) := by decide +kernel
theorem dX7_votesToBring_30 : decode cX7_votesToBring 30 = .ok (.iload_n 1, 1) := by decide +kernel
theorem dX7_votesToBring_31 : decode cX7_votesToBring 31 = .ok (.iload 4, 2) := by decide +kernel
theorem dX7_votesToBring_33 : decode cX7_votesToBring 33 = .ok (.invokevirtual 113, 3) := by decide +kernel
theorem dX7_votesToBring_36 : decode cX7_votesToBring 36 = .ok (.ifCond .eq 38, 3) := by decide +kernel
theorem dX7_votesToBring_39 : decode cX7_votesToBring 39 = .ok (.iconst 0, 1) := by decide +kernel
theorem dX7_votesToBring_40 : decode cX7_votesToBring 40 = .ok (.aload_n 0, 1) := by decide +kernel
theorem dX7_votesToBring_41 : decode cX7_votesToBring 41 = .ok (.iload_n 1, 1) := by decide +kernel
theorem dX7_votesToBring_42 : decode cX7_votesToBring 42 = .ok (.iload 4, 2) := by decide +kernel
theorem dX7_votesToBring_44 : decode cX7_votesToBring 44 = .ok (.invokevirtual 64, 3) := by decide +kernel
theorem dX7_votesToBring_47 : decode cX7_votesToBring 47 = .ok (.ineg, 1) := by decide +kernel
theorem dX7_votesToBring_48 : decode cX7_votesToBring 48 = .ok (.invokestatic 28, 3) := by decide +kernel
theorem dX7_votesToBring_51 : decode cX7_votesToBring 51 = .ok (.istore 5, 2) := by decide +kernel
theorem dX7_votesToBring_53 : decode cX7_votesToBring 53 = .ok (.iload 5, 2) := by decide +kernel
theorem dX7_votesToBring_55 : decode cX7_votesToBring 55 = .ok (.iload_n 2, 1) := by decide +kernel
theorem dX7_votesToBring_56 : decode cX7_votesToBring 56 = .ok (.aload_n 0, 1) := by decide +kernel
theorem dX7_votesToBring_57 : decode cX7_votesToBring 57 = .ok (.getfield 18, 3) := by decide +kernel
theorem dX7_votesToBring_60 : decode cX7_votesToBring 60 = .ok (.iload 4, 2) := by decide +kernel
theorem dX7_votesToBring_62 : decode cX7_votesToBring 62 = .ok (.iaload, 1) := by decide +kernel
theorem dX7_votesToBring_63 : decode cX7_votesToBring 63 = .ok (.isub, 1) := by decide +kernel
theorem dX7_votesToBring_64 : decode cX7_votesToBring 64 = .ok (.if_icmp .le 5, 3) := by decide +kernel
theorem dX7_votesToBring_67 : decode cX7_votesToBring 67 = .ok (.iconst (-1), 1) := by decide +kernel
theorem dX7_votesToBring_68 : decode cX7_votesToBring 68 = .ok (.ireturn, 1) := by decide +kernel
theorem dX7_votesToBring_69 : decode cX7_votesToBring 69 = .ok (.iload_n 3, 1) := by decide +kernel
theorem dX7_votesToBring_70 : decode cX7_votesToBring 70 = .ok (.iload 5, 2) := by decide +kernel
theorem dX7_votesToBring_72 : decode cX7_votesToBring 72 = .ok (.iadd, 1) := by decide +kernel
theorem dX7_votesToBring_73 : decode cX7_votesToBring 73 = .ok (.istore_n 3, 1) := by decide +kernel
theorem dX7_votesToBring_74 : decode cX7_votesToBring 74 = .ok (.iinc 4 1, 3) := by decide +kernel
theorem dX7_votesToBring_77 : decode cX7_votesToBring 77 = .ok (.goto (-60), 3) := by decide +kernel
theorem dX7_votesToBring_80 : decode cX7_votesToBring 80 = .ok (.iload_n 3, 1) := by decide +kernel
theorem dX7_votesToBring_81 : decode cX7_votesToBring 81 = .ok (.iload_n 2, 1) := by decide +kernel
theorem dX7_votesToBring_82 : decode cX7_votesToBring 82 = .ok (.if_icmp .gt 7, 3) := by decide +kernel
theorem dX7_votesToBring_85 : decode cX7_votesToBring 85 = .ok (.iload_n 3, 1) := by decide +kernel
theorem dX7_votesToBring_86 : decode cX7_votesToBring 86 = .ok (.goto 4, 3) := by decide +kernel
theorem dX7_votesToBring_89 : decode cX7_votesToBring 89 = .ok (.iconst (-1), 1) := by decide +kernel
theorem dX7_votesToBring_90 : decode cX7_votesToBring 90 = .ok (.ireturn, 1) := by decide +kernel
def g_X7_votesToBring_17 (h : zH) (t0 : Nat)  : Nat → Int32 → Int32 → Int32 → Int32 → Option Int32
  | 0, _, _, _, _ => none
  | n + 1, x1, x2, x3, x4 => if (h.1 (zR t0 0) 7) ≤ x4 then (if x2 < x3 then (some (-1)) else (some x3)) else ((g_X7_areTwoAlive h t0 x1 x4).bind fun v_6 => if (zb v_6) = 0 then (g_X7_votesToBring_17 h t0 n x1 x2 x3 (x4 + 1)) else ((g_X7_lead h t0 x1 x4).bind fun v_8 => zlet (if 0 < (-v_8) then (-v_8) else 0) fun v_9 => zgu (zin x4 7) <| if v_9 ≤ (x2 - (h.1 (zR t0 3) (zx x4))) then (g_X7_votesToBring_17 h t0 n x1 x2 (x3 + v_9) (x4 + 1)) else (some (-1))))
def g_X7_votesToBring (h : zH) (t0 : Nat) (x1 : Int32) : Option Int32 := (g_X7_votesLeft h t0).bind fun v_1 => zgu (zin x1 7) <| zlet (v_1 - (h.1 (zR t0 3) (zx x1))) fun v_3 => g_X7_votesToBring_17 h t0 zfu x1 v_3 0 0
set_option maxRecDepth 100000 in
set_option maxHeartbeats 4000000 in
theorem b_X7_votesToBring_17 {K : zK} {G : zG} (hK : zC K G cX7_votesToBring RX7 6 3 67 (some .int)) {h : zH} {t0 : Nat} (ht0 : zT t0 = (6, 0)) {r : Int32} (hE : zE K G (some (.int r)) h) : ∀ (n : Nat) (x1 : Int32) (x2 : Int32) (x3 : Int32) (x4 : Int32), g_X7_votesToBring_17 h t0 n x1 x2 x3 x4 = some r → zW K G 6 17 [(0, .ref (G.2.2.2 t0)), (1, .int x1), (2, .int x2), (3, .int x3), (4, .int x4)] [] h := by
  intro n
  induction n with
  | zero => intro x1 x2 x3 x4 hg; exact nomatch (show none = some r from hg)
  | succ n ih =>
    intro x1 x2 x3 x4 hg
    rw [g_X7_votesToBring_17] at hg
    refine z_iload (pc := 17) hK 4 dX7_votesToBring_17 rfl (z_aload_n (pc := 19) hK 0 dX7_votesToBring_19 rfl (z_getR (pc := 20) hK f_X7_21_6 ht0 dX7_votesToBring_20 (z_getI (pc := 23) hK f_X7_40_4 (zt_6_0 ht0) dX7_votesToBring_23 (z_icmp_ge (pc := 26) hK 80 dX7_votesToBring_26 (by decide) (fun c_4 => ?_) (fun c_4 => ?_)))))
    · rw [if_pos c_4] at hg
      refine z_iload_n (pc := 80) hK 3 dX7_votesToBring_80 rfl (z_iload_n (pc := 81) hK 2 dX7_votesToBring_81 rfl (z_icmp_gt (pc := 82) hK 89 dX7_votesToBring_82 (by decide) (fun c_5 => ?_) (fun c_5 => ?_)))
      · rw [if_pos c_5] at hg
        exact z_iconst (pc := 89) hK dX7_votesToBring_89 zc_im1 (z_iretP (pc := 90) hK hE hg dX7_votesToBring_90)
      · rw [if_neg c_5] at hg
        exact z_iload_n (pc := 85) hK 3 dX7_votesToBring_85 rfl (z_goto (pc := 86) hK 90 dX7_votesToBring_86 (by decide) (z_iretP (pc := 90) hK hE hg dX7_votesToBring_90))
    · rw [if_neg c_4] at hg
      obtain ⟨v_6, qv_6, hg⟩ := zbind_some hg
      refine z_aload_n (pc := 29) hK 0 dX7_votesToBring_29 rfl (z_iload_n (pc := 30) hK 1 dX7_votesToBring_30 rfl (z_iload (pc := 31) hK 4 dX7_votesToBring_31 rfl (z_callVi (pc := 33) hK [.int x1, .int x4] (m_X7_areTwoAlive (zC_D hK) ht0 qv_6) sv_X7_areTwoAlive q_1003 ht0 rfl [] rfl (Nat.le_of_ble_eq_true rfl) ⟨by decide, by decide⟩ dX7_votesToBring_33 (z_if_eq (pc := 36) hK 74 dX7_votesToBring_36 (by decide) (fun c_7 => ?_) (fun c_7 => ?_)))))
      · rw [if_pos c_7] at hg
        exact z_iinc (pc := 74) hK 4 (lv' := [(4, .int (x4 + 1)), (0, .ref (G.2.2.2 t0)), (1, .int x1), (2, .int x2), (3, .int x3)]) dX7_votesToBring_74 rfl (zc_n1 _) (by decide) rfl (z_goto (pc := 77) hK 17 dX7_votesToBring_77 (by decide) (zsub (lv' := [(0, .ref (G.2.2.2 t0)), (1, .int x1), (2, .int x2), (3, .int x3), (4, .int (x4 + 1))]) [1, 2, 3, 4, 0] rfl (ih x1 x2 x3 (x4 + 1) hg)))
      · rw [if_neg c_7] at hg
        obtain ⟨v_8, qv_8, hg⟩ := zbind_some hg
        obtain ⟨v_9, ev_9, hg⟩ := zlet_some hg
        obtain ⟨c_10, hg⟩ := zgu_some hg
        refine z_iconst (pc := 39) hK dX7_votesToBring_39 zc_i0 (z_aload_n (pc := 40) hK 0 dX7_votesToBring_40 rfl (z_iload_n (pc := 41) hK 1 dX7_votesToBring_41 rfl (z_iload (pc := 42) hK 4 dX7_votesToBring_42 rfl (z_callVi (pc := 44) hK [.int x1, .int x4] (m_X7_lead (zC_D hK) ht0 qv_8) sv_X7_lead q_913 ht0 rfl [.int 0] rfl (Nat.le_of_ble_eq_true rfl) ⟨by decide, by decide⟩ dX7_votesToBring_44 (z_ineg (pc := 47) hK dX7_votesToBring_47 (z_mmax (pc := 48) hK q_847 zw_max ⟨by decide, Nat.le_of_ble_eq_true rfl⟩ dX7_votesToBring_48 (z_nameI ev_9 (z_istore (pc := 51) hK (lv' := [(5, .int v_9), (0, .ref (G.2.2.2 t0)), (1, .int x1), (2, .int x2), (3, .int x3), (4, .int x4)]) dX7_votesToBring_51 (by decide) rfl (z_iload (pc := 53) hK 0 dX7_votesToBring_53 rfl (z_iload_n (pc := 55) hK 3 dX7_votesToBring_55 rfl (z_aload_n (pc := 56) hK 1 dX7_votesToBring_56 rfl (z_getR (pc := 57) hK f_X7_18_6 ht0 dX7_votesToBring_57 (z_iload (pc := 60) hK 5 dX7_votesToBring_60 rfl (z_iald (pc := 62) hK (zt_6_3 ht0) c_10 dX7_votesToBring_62 (z_isub (pc := 63) hK dX7_votesToBring_63 (z_icmp_le (pc := 64) hK 69 dX7_votesToBring_64 (by decide) (fun c_11 => ?_) (fun c_11 => ?_)))))))))))))))))
        · rw [if_pos c_11] at hg
          exact z_iload_n (pc := 69) hK 4 dX7_votesToBring_69 rfl (z_iload (pc := 70) hK 0 dX7_votesToBring_70 rfl (z_iadd (pc := 72) hK dX7_votesToBring_72 (z_istore_n (pc := 73) hK (lv' := [(3, .int (x3 + v_9)), (5, .int v_9), (0, .ref (G.2.2.2 t0)), (1, .int x1), (2, .int x2), (4, .int x4)]) dX7_votesToBring_73 (by decide) rfl (z_iinc (pc := 74) hK 5 (lv' := [(4, .int (x4 + 1)), (3, .int (x3 + v_9)), (5, .int v_9), (0, .ref (G.2.2.2 t0)), (1, .int x1), (2, .int x2)]) dX7_votesToBring_74 rfl (zc_n1 _) (by decide) rfl (z_goto (pc := 77) hK 17 dX7_votesToBring_77 (by decide) (zsub (lv' := [(0, .ref (G.2.2.2 t0)), (1, .int x1), (2, .int x2), (3, .int (x3 + v_9)), (4, .int (x4 + 1))]) [3, 4, 5, 1, 0] rfl (ih x1 x2 (x3 + v_9) (x4 + 1) hg)))))))
        · rw [if_neg c_11] at hg
          exact z_iconst (pc := 67) hK dX7_votesToBring_67 zc_im1 (z_iretP (pc := 68) hK hE hg dX7_votesToBring_68)
set_option maxRecDepth 100000 in
set_option maxHeartbeats 4000000 in
theorem b_X7_votesToBring {K : zK} {G : zG} (hK : zC K G cX7_votesToBring RX7 6 3 67 (some .int)) {h : zH} {t0 : Nat} {x1 : Int32} (ht0 : zT t0 = (6, 0)) {r : Int32} (hE : zE K G (some (.int r)) h) (hg : g_X7_votesToBring h t0 x1 = some r) : zW K G 6 0 [(0, .ref (G.2.2.2 t0)), (1, .int x1)] [] h := by
  rw [g_X7_votesToBring] at hg
  obtain ⟨v_1, qv_1, hg⟩ := zbind_some hg
  obtain ⟨c_2, hg⟩ := zgu_some hg
  obtain ⟨v_3, ev_3, hg⟩ := zlet_some hg
  exact z_aload_n (pc := 0) hK 0 dX7_votesToBring_0 rfl (z_callVi (pc := 1) hK [] (m_X7_votesLeft (zC_D hK) ht0 qv_1) sv_X7_votesLeft q_1082 ht0 rfl [] rfl (Nat.le_of_ble_eq_true rfl) ⟨by decide, by decide⟩ dX7_votesToBring_1 (z_aload_n (pc := 4) hK 0 dX7_votesToBring_4 rfl (z_getR (pc := 5) hK f_X7_18_6 ht0 dX7_votesToBring_5 (z_iload_n (pc := 8) hK 1 dX7_votesToBring_8 rfl (z_iald (pc := 9) hK (zt_6_3 ht0) c_2 dX7_votesToBring_9 (z_isub (pc := 10) hK dX7_votesToBring_10 (z_nameI ev_3 (z_istore_n (pc := 11) hK (lv' := [(2, .int v_3), (0, .ref (G.2.2.2 t0)), (1, .int x1)]) dX7_votesToBring_11 (by decide) rfl (z_iconst (pc := 12) hK dX7_votesToBring_12 zc_i0 (z_istore_n (pc := 13) hK (lv' := [(3, .int 0), (2, .int v_3), (0, .ref (G.2.2.2 t0)), (1, .int x1)]) dX7_votesToBring_13 (by decide) rfl (z_iconst (pc := 14) hK dX7_votesToBring_14 zc_i0 (z_istore (pc := 15) hK (lv' := [(4, .int 0), (3, .int 0), (2, .int v_3), (0, .ref (G.2.2.2 t0)), (1, .int x1)]) dX7_votesToBring_15 (by decide) rfl (zsub (lv' := [(0, .ref (G.2.2.2 t0)), (1, .int x1), (2, .int v_3), (3, .int 0), (4, .int 0)]) [3, 4, 2, 1, 0] rfl (b_X7_votesToBring_17 hK ht0 hE zfu x1 v_3 0 0 hg))))))))))))))
theorem m_X7_votesToBring {l : Launch} {G : zG} (hG : zD G) {h : zH} {t0 : Nat} {x1 : Int32} (ht0 : zT t0 = (6, 0)) {r : Int32} (hg : g_X7_votesToBring h t0 x1 = some r) : zM l G yX7_votesToBring cX7_votesToBring 6 (some .int) 3 67 [.ref (G.2.2.2 t0), .int x1] h (some (.int r)) h :=
  zM_of hG pn_X7 (Nat.le_of_ble_eq_true rfl) (fun K _ hK hE => b_X7_votesToBring hK ht0 hE hg)
theorem dX7_votesToBear_0 : decode cX7_votesToBear 0 = .ok (.iconst (-1), 1) := by decide +kernel
theorem dX7_votesToBear_1 : decode cX7_votesToBear 1 = .ok (.istore_n 2, 1) := by decide +kernel
theorem dX7_votesToBear_2 : decode cX7_votesToBear 2 = .ok (.iconst 0, 1) := by decide +kernel
theorem dX7_votesToBear_3 : decode cX7_votesToBear 3 = .ok (.istore_n 3, 1) := by decide +kernel
theorem dX7_votesToBear_4 : decode cX7_votesToBear 4 = .ok (.iload_n 3, 1) := by decide +kernel
theorem dX7_votesToBear_5 : decode cX7_votesToBear 5 = .ok (.aload_n 0, 1) := by decide +kernel
theorem dX7_votesToBear_6 : decode cX7_votesToBear 6 = .ok (.getfield 21, 3) := by decide +kernel
theorem dX7_votesToBear_9 : decode cX7_votesToBear 9 = .ok (.getfield 40, 3) := by decide +kernel
theorem dX7_votesToBear_12 : decode cX7_votesToBear 12 = .ok (.if_icmp .ge 43, 3) := by decide +kernel
theorem dX7_votesToBear_15 : decode cX7_votesToBear 15 = .ok (.aload_n 0, 1) := by decide +kernel
theorem dX7_votesToBear_16 : decode cX7_votesToBear 16 = .ok (.iload_n 1, 1) := by decide +kernel
theorem dX7_votesToBear_17 : decode cX7_votesToBear 17 = .ok (.iload_n 3, 1) := by decide +kernel
theorem dX7_votesToBear_18 : decode cX7_votesToBear 18 = .ok (.invokevirtual 113, 3) := by decide +kernel
theorem dX7_votesToBear_21 : decode cX7_votesToBear 21 = .ok (.ifCond .eq 28, 3) := by decide +kernel
theorem dX7_votesToBear_24 : decode cX7_votesToBear 24 = .ok (.aload_n 0, 1) := by decide +kernel
theorem dX7_votesToBear_25 : decode cX7_votesToBear 25 = .ok (.iload_n 1, 1) := by decide +kernel
theorem dX7_votesToBear_26 : decode cX7_votesToBear 26 = .ok (.iload_n 3, 1) := by decide +kernel
theorem dX7_votesToBear_27 : decode cX7_votesToBear 27 = .ok (.invokevirtual 64, 3) := by decide +kernel
theorem dX7_votesToBear_30 : decode cX7_votesToBear 30 = .ok (.istore 4, 2) := by decide +kernel
theorem dX7_votesToBear_32 : decode cX7_votesToBear 32 = .ok (.iload_n 2, 1) := by decide +kernel
theorem dX7_votesToBear_33 : decode cX7_votesToBear 33 = .ok (.iconst (-1), 1) := by decide +kernel
theorem dX7_votesToBear_34 : decode cX7_votesToBear 34 = .ok (.if_icmp .ne 8, 3) := by decide +kernel
theorem dX7_votesToBear_37 : decode cX7_votesToBear 37 = .ok (.iload 4, 2) := by decide +kernel
theorem dX7_votesToBear_39 : decode cX7_votesToBear 39 = .ok (.goto 9, 3) := by decide +kernel
theorem dX7_votesToBear_42 : decode cX7_votesToBear 42 = .ok (.iload_n 2, 1) := by decide +kernel
theorem dX7_votesToBear_43 : decode cX7_votesToBear 43 = .ok (.iload 4, 2) := by decide +kernel
theorem dX7_votesToBear_45 : decode cX7_votesToBear 45 = .ok (.invokestatic 101, 3) := by decide +kernel
theorem dX7_votesToBear_48 : decode cX7_votesToBear 48 = .ok (.istore_n 2, 1) := by decide +kernel
theorem dX7_votesToBear_49 : decode cX7_votesToBear 49 = .ok (.iinc 3 1, 3) := by decide +kernel
theorem dX7_votesToBear_52 : decode cX7_votesToBear 52 = .ok (.goto (-48), 3) := by decide +kernel
theorem dX7_votesToBear_55 : decode cX7_votesToBear 55 = .ok (.iload_n 2, 1) := by decide +kernel
theorem dX7_votesToBear_56 : decode cX7_votesToBear 56 = .ok (.ireturn, 1) := by decide +kernel
def g_X7_votesToBear_4 (h : zH) (t0 : Nat)  : Nat → Int32 → Int32 → Int32 → Option Int32
  | 0, _, _, _ => none
  | n + 1, x1, x2, x3 => if (h.1 (zR t0 0) 7) ≤ x3 then (some x2) else ((g_X7_areTwoAlive h t0 x1 x3).bind fun v_2 => if (zb v_2) = 0 then (g_X7_votesToBear_4 h t0 n x1 x2 (x3 + 1)) else ((g_X7_lead h t0 x1 x3).bind fun v_4 => if x2 = (-1) then (g_X7_votesToBear_4 h t0 n x1 v_4 (x3 + 1)) else (zlet (if v_4 < x2 then v_4 else x2) fun v_6 => g_X7_votesToBear_4 h t0 n x1 v_6 (x3 + 1))))
def g_X7_votesToBear (h : zH) (t0 : Nat) (x1 : Int32) : Option Int32 := g_X7_votesToBear_4 h t0 zfu x1 (-1) 0
set_option maxRecDepth 100000 in
set_option maxHeartbeats 4000000 in
theorem b_X7_votesToBear_4 {K : zK} {G : zG} (hK : zC K G cX7_votesToBear RX7 5 3 67 (some .int)) {h : zH} {t0 : Nat} (ht0 : zT t0 = (6, 0)) {r : Int32} (hE : zE K G (some (.int r)) h) : ∀ (n : Nat) (x1 : Int32) (x2 : Int32) (x3 : Int32), g_X7_votesToBear_4 h t0 n x1 x2 x3 = some r → zW K G 5 4 [(0, .ref (G.2.2.2 t0)), (1, .int x1), (2, .int x2), (3, .int x3)] [] h := by
  intro n
  induction n with
  | zero => intro x1 x2 x3 hg; exact nomatch (show none = some r from hg)
  | succ n ih =>
    intro x1 x2 x3 hg
    rw [g_X7_votesToBear_4] at hg
    refine z_iload_n (pc := 4) hK 3 dX7_votesToBear_4 rfl (z_aload_n (pc := 5) hK 0 dX7_votesToBear_5 rfl (z_getR (pc := 6) hK f_X7_21_6 ht0 dX7_votesToBear_6 (z_getI (pc := 9) hK f_X7_40_4 (zt_6_0 ht0) dX7_votesToBear_9 (z_icmp_ge (pc := 12) hK 55 dX7_votesToBear_12 (by decide) (fun c_1 => ?_) (fun c_1 => ?_)))))
    · rw [if_pos c_1] at hg
      exact z_iload_n (pc := 55) hK 2 dX7_votesToBear_55 rfl (z_iretP (pc := 56) hK hE hg dX7_votesToBear_56)
    · rw [if_neg c_1] at hg
      obtain ⟨v_2, qv_2, hg⟩ := zbind_some hg
      refine z_aload_n (pc := 15) hK 0 dX7_votesToBear_15 rfl (z_iload_n (pc := 16) hK 1 dX7_votesToBear_16 rfl (z_iload_n (pc := 17) hK 3 dX7_votesToBear_17 rfl (z_callVi (pc := 18) hK [.int x1, .int x3] (m_X7_areTwoAlive (zC_D hK) ht0 qv_2) sv_X7_areTwoAlive q_1003 ht0 rfl [] rfl (Nat.le_of_ble_eq_true rfl) ⟨by decide, by decide⟩ dX7_votesToBear_18 (z_if_eq (pc := 21) hK 49 dX7_votesToBear_21 (by decide) (fun c_3 => ?_) (fun c_3 => ?_)))))
      · rw [if_pos c_3] at hg
        exact z_iinc (pc := 49) hK 3 (lv' := [(3, .int (x3 + 1)), (0, .ref (G.2.2.2 t0)), (1, .int x1), (2, .int x2)]) dX7_votesToBear_49 rfl (zc_n1 _) (by decide) rfl (z_goto (pc := 52) hK 4 dX7_votesToBear_52 (by decide) (zsub (lv' := [(0, .ref (G.2.2.2 t0)), (1, .int x1), (2, .int x2), (3, .int (x3 + 1))]) [1, 2, 3, 0] rfl (ih x1 x2 (x3 + 1) hg)))
      · rw [if_neg c_3] at hg
        obtain ⟨v_4, qv_4, hg⟩ := zbind_some hg
        refine z_aload_n (pc := 24) hK 0 dX7_votesToBear_24 rfl (z_iload_n (pc := 25) hK 1 dX7_votesToBear_25 rfl (z_iload_n (pc := 26) hK 3 dX7_votesToBear_26 rfl (z_callVi (pc := 27) hK [.int x1, .int x3] (m_X7_lead (zC_D hK) ht0 qv_4) sv_X7_lead q_913 ht0 rfl [] rfl (Nat.le_of_ble_eq_true rfl) ⟨by decide, by decide⟩ dX7_votesToBear_27 (z_istore (pc := 30) hK (lv' := [(4, .int v_4), (0, .ref (G.2.2.2 t0)), (1, .int x1), (2, .int x2), (3, .int x3)]) dX7_votesToBear_30 (by decide) rfl (z_iload_n (pc := 32) hK 3 dX7_votesToBear_32 rfl (z_iconst (pc := 33) hK dX7_votesToBear_33 zc_im1 (z_icmp_ne (pc := 34) hK 42 dX7_votesToBear_34 (by decide) (fun c_5 => ?_) (fun c_5 => ?_))))))))
        · rw [if_neg c_5] at hg
          obtain ⟨v_6, ev_6, hg⟩ := zlet_some hg
          exact z_iload_n (pc := 42) hK 3 dX7_votesToBear_42 rfl (z_iload (pc := 43) hK 0 dX7_votesToBear_43 rfl (z_mmin (pc := 45) hK q_978 zw_min ⟨by decide, Nat.le_of_ble_eq_true rfl⟩ dX7_votesToBear_45 (z_nameI ev_6 (z_istore_n (pc := 48) hK (lv' := [(2, .int v_6), (4, .int v_4), (0, .ref (G.2.2.2 t0)), (1, .int x1), (3, .int x3)]) dX7_votesToBear_48 (by decide) rfl (z_iinc (pc := 49) hK 4 (lv' := [(3, .int (x3 + 1)), (2, .int v_6), (4, .int v_4), (0, .ref (G.2.2.2 t0)), (1, .int x1)]) dX7_votesToBear_49 rfl (zc_n1 _) (by decide) rfl (z_goto (pc := 52) hK 4 dX7_votesToBear_52 (by decide) (zsub (lv' := [(0, .ref (G.2.2.2 t0)), (1, .int x1), (2, .int v_6), (3, .int (x3 + 1))]) [3, 4, 1, 0] rfl (ih x1 v_6 (x3 + 1) hg))))))))
        · rw [if_pos c_5] at hg
          exact z_iload (pc := 37) hK 0 dX7_votesToBear_37 rfl (z_goto (pc := 39) hK 48 dX7_votesToBear_39 (by decide) (z_istore_n (pc := 48) hK (lv' := [(2, .int v_4), (4, .int v_4), (0, .ref (G.2.2.2 t0)), (1, .int x1), (3, .int x3)]) dX7_votesToBear_48 (by decide) rfl (z_iinc (pc := 49) hK 4 (lv' := [(3, .int (x3 + 1)), (2, .int v_4), (4, .int v_4), (0, .ref (G.2.2.2 t0)), (1, .int x1)]) dX7_votesToBear_49 rfl (zc_n1 _) (by decide) rfl (z_goto (pc := 52) hK 4 dX7_votesToBear_52 (by decide) (zsub (lv' := [(0, .ref (G.2.2.2 t0)), (1, .int x1), (2, .int v_4), (3, .int (x3 + 1))]) [3, 4, 1, 0] rfl (ih x1 v_4 (x3 + 1) hg))))))
set_option maxRecDepth 100000 in
set_option maxHeartbeats 4000000 in
theorem b_X7_votesToBear {K : zK} {G : zG} (hK : zC K G cX7_votesToBear RX7 5 3 67 (some .int)) {h : zH} {t0 : Nat} {x1 : Int32} (ht0 : zT t0 = (6, 0)) {r : Int32} (hE : zE K G (some (.int r)) h) (hg : g_X7_votesToBear h t0 x1 = some r) : zW K G 5 0 [(0, .ref (G.2.2.2 t0)), (1, .int x1)] [] h := by
  rw [g_X7_votesToBear] at hg
  exact z_iconst (pc := 0) hK dX7_votesToBear_0 zc_im1 (z_istore_n (pc := 1) hK (lv' := [(2, .int (-1)), (0, .ref (G.2.2.2 t0)), (1, .int x1)]) dX7_votesToBear_1 (by decide) rfl (z_iconst (pc := 2) hK dX7_votesToBear_2 zc_i0 (z_istore_n (pc := 3) hK (lv' := [(3, .int 0), (2, .int (-1)), (0, .ref (G.2.2.2 t0)), (1, .int x1)]) dX7_votesToBear_3 (by decide) rfl (zsub (lv' := [(0, .ref (G.2.2.2 t0)), (1, .int x1), (2, .int (-1)), (3, .int 0)]) [2, 3, 1, 0] rfl (b_X7_votesToBear_4 hK ht0 hE zfu x1 (-1) 0 hg)))))
theorem m_X7_votesToBear {l : Launch} {G : zG} (hG : zD G) {h : zH} {t0 : Nat} {x1 : Int32} (ht0 : zT t0 = (6, 0)) {r : Int32} (hg : g_X7_votesToBear h t0 x1 = some r) : zM l G yX7_votesToBear cX7_votesToBear 5 (some .int) 3 67 [.ref (G.2.2.2 t0), .int x1] h (some (.int r)) h :=
  zM_of hG pn_X7 (Nat.le_of_ble_eq_true rfl) (fun K _ hK hE => b_X7_votesToBear hK ht0 hE hg)
theorem dX7_giftsToQuiet_0 : decode cX7_giftsToQuiet 0 = .ok (.aload_n 0, 1) := by decide +kernel
theorem dX7_giftsToQuiet_1 : decode cX7_giftsToQuiet 1 = .ok (.iload_n 1, 1) := by decide +kernel
theorem dX7_giftsToQuiet_2 : decode cX7_giftsToQuiet 2 = .ok (.invokevirtual 151, 3) := by decide +kernel
theorem dX7_giftsToQuiet_5 : decode cX7_giftsToQuiet 5 = .ok (.ifCond .eq 12, 3) := by decide +kernel
theorem dX7_giftsToQuiet_8 : decode cX7_giftsToQuiet 8 = .ok (.aload_n 0, 1) := by decide +kernel
theorem dX7_giftsToQuiet_9 : decode cX7_giftsToQuiet 9 = .ok (.iload_n 1, 1) := by decide +kernel
theorem dX7_giftsToQuiet_10 : decode cX7_giftsToQuiet 10 = .ok (.iload_n 2, 1) := by decide +kernel
theorem dX7_giftsToQuiet_11 : decode cX7_giftsToQuiet 11 = .ok (.invokevirtual 113, 3) := by decide +kernel
theorem dX7_giftsToQuiet_14 : decode cX7_giftsToQuiet 14 = .ok (.ifCond .ne 5, 3) := by decide +kernel
theorem dX7_giftsToQuiet_17 : decode cX7_giftsToQuiet 17 = .ok (.iconst 0, 1) := by decide +kernel
theorem dX7_giftsToQuiet_18 : decode cX7_giftsToQuiet 18 = .ok (.ireturn, 1) := by decide +kernel
theorem dX7_giftsToQuiet_19 : decode cX7_giftsToQuiet 19 = .ok (.iload_n 1, 1) := by decide +kernel
theorem dX7_giftsToQuiet_20 : decode cX7_giftsToQuiet 20 = .ok (.bipush 7, 2) := by decide +kernel
theorem dX7_giftsToQuiet_22 : decode cX7_giftsToQuiet 22 = .ok (.imul, 1) := by decide +kernel
theorem dX7_giftsToQuiet_23 : decode cX7_giftsToQuiet 23 = .ok (.iload_n 2, 1) := by decide +kernel
theorem dX7_giftsToQuiet_24 : decode cX7_giftsToQuiet 24 = .ok (.iadd, 1) := by decide +kernel
theorem dX7_giftsToQuiet_25 : decode cX7_giftsToQuiet 25 = .ok (.istore_n 3, 1) := by decide +kernel
theorem dX7_giftsToQuiet_26 : decode cX7_giftsToQuiet 26 = .ok (.aload_n 0, 1) := by decide +kernel
theorem dX7_giftsToQuiet_27 : decode cX7_giftsToQuiet 27 = .ok (.getfield 21, 3) := by decide +kernel
theorem dX7_giftsToQuiet_30 : decode cX7_giftsToQuiet 30 = .ok (.iload_n 1, 1) := by decide +kernel
theorem dX7_giftsToQuiet_31 : decode cX7_giftsToQuiet 31 = .ok (.aload_n 0, 1) := by decide +kernel
theorem dX7_giftsToQuiet_32 : decode cX7_giftsToQuiet 32 = .ok (.getfield 21, 3) := by decide +kernel
theorem dX7_giftsToQuiet_35 : decode cX7_giftsToQuiet 35 = .ok (.getfield 145, 3) := by decide +kernel
theorem dX7_giftsToQuiet_38 : decode cX7_giftsToQuiet 38 = .ok (.invokevirtual 157, 3) := by decide +kernel
theorem dX7_giftsToQuiet_41 : decode cX7_giftsToQuiet 41 = .ok (.istore 4, 2) := by decide +kernel
theorem dX7_giftsToQuiet_43 : decode cX7_giftsToQuiet 43 = .ok (.iconst 0, 1) := by decide +kernel
theorem dX7_giftsToQuiet_44 : decode cX7_giftsToQuiet 44 = .ok (.istore 5, 2) := by decide +kernel
theorem dX7_giftsToQuiet_46 : decode cX7_giftsToQuiet 46 = .ok (.aload_n 0, 1) := by decide +kernel
theorem dX7_giftsToQuiet_47 : decode cX7_giftsToQuiet 47 = .ok (.getfield 9, 3) := by decide +kernel
theorem dX7_giftsToQuiet_50 : decode cX7_giftsToQuiet 50 = .ok (.iload_n 3, 1) := by decide +kernel
theorem dX7_giftsToQuiet_51 : decode cX7_giftsToQuiet 51 = .ok (.iaload, 1) := by decide +kernel
theorem dX7_giftsToQuiet_52 : decode cX7_giftsToQuiet 52 = .ok (.iload 4, 2) := by decide +kernel
theorem dX7_giftsToQuiet_54 : decode cX7_giftsToQuiet 54 = .ok (.if_icmp .lt 37, 3) := by decide +kernel
theorem dX7_giftsToQuiet_57 : decode cX7_giftsToQuiet 57 = .ok (.iload 5, 2) := by decide +kernel
theorem dX7_giftsToQuiet_59 : decode cX7_giftsToQuiet 59 = .ok (.bipush 9, 2) := by decide +kernel
theorem dX7_giftsToQuiet_61 : decode cX7_giftsToQuiet 61 = .ok (.if_icmp .gt 30, 3) := by decide +kernel
theorem dX7_giftsToQuiet_64 : decode cX7_giftsToQuiet 64 = .ok (.aload_n 0, 1) := by decide +kernel
theorem dX7_giftsToQuiet_65 : decode cX7_giftsToQuiet 65 = .ok (.getfield 9, 3) := by decide +kernel
theorem dX7_giftsToQuiet_68 : decode cX7_giftsToQuiet 68 = .ok (.iload_n 3, 1) := by decide +kernel
theorem dX7_giftsToQuiet_69 : decode cX7_giftsToQuiet 69 = .ok (.iaload, 1) := by decide +kernel
theorem dX7_giftsToQuiet_70 : decode cX7_giftsToQuiet 70 = .ok (.istore 6, 2) := by decide +kernel
theorem dX7_giftsToQuiet_72 : decode cX7_giftsToQuiet 72 = .ok (.aload_n 0, 1) := by decide +kernel
theorem dX7_giftsToQuiet_73 : decode cX7_giftsToQuiet 73 = .ok (.iload_n 2, 1) := by decide +kernel
theorem dX7_giftsToQuiet_74 : decode cX7_giftsToQuiet 74 = .ok (.iload_n 1, 1) := by decide +kernel
theorem dX7_giftsToQuiet_75 : decode cX7_giftsToQuiet 75 = .ok (.invokevirtual 139, 3) := by decide +kernel
theorem dX7_giftsToQuiet_78 : decode cX7_giftsToQuiet 78 = .ok (.iload 6, 2) := by decide +kernel
theorem dX7_giftsToQuiet_80 : decode cX7_giftsToQuiet 80 = .ok (.if_icmp .lt 5, 3) := by decide +kernel
theorem dX7_giftsToQuiet_83 : decode cX7_giftsToQuiet 83 = .ok (.iconst (-1), 1) := by decide +kernel
theorem dX7_giftsToQuiet_84 : decode cX7_giftsToQuiet 84 = .ok (.ireturn, 1) := by decide +kernel
theorem dX7_giftsToQuiet_85 : decode cX7_giftsToQuiet 85 = .ok (.iinc 5 1, 3) := by decide +kernel
theorem dX7_giftsToQuiet_88 : decode cX7_giftsToQuiet 88 = .ok (.goto (-42), 3) := by decide +kernel
theorem dX7_giftsToQuiet_91 : decode cX7_giftsToQuiet 91 = .ok (.iload 5, 2) := by decide +kernel
theorem dX7_giftsToQuiet_93 : decode cX7_giftsToQuiet 93 = .ok (.ireturn, 1) := by decide +kernel
def g_X7_giftsToQuiet_46 (t0 : Nat)  : Nat → Int32 → Int32 → Int32 → Int32 → Int32 → zH → Option (Int32 × zH)
  | 0, _, _, _, _, _, _ => none
  | n + 1, x1, x2, x3, x4, x5, h => zgu (zin x3 49) <| if (h.1 (zR t0 1) (zx x3)) < x4 then (some (x5, h)) else (if 9 < x5 then (some (x5, h)) else (zgu (zin x3 49) <| zlet (h.1 (zR t0 1) (zx x3)) fun v_11 => (g_X7_give h t0 x2 x1).bind fun v_12 => if v_12.1 < v_11 then (g_X7_giftsToQuiet_46 t0 n x1 x2 x3 x4 (x5 + 1) v_12.2) else (some ((-1), v_12.2))))
def g_X7_giftsToQuiet (h : zH) (t0 : Nat) (x1 : Int32) (x2 : Int32) : Option (Int32 × zH) := (g_X7_castsOnDays h t0 x1).bind fun v_1 => if (zb v_1) = 0 then (some (0, h)) else ((g_X7_areTwoAlive h t0 x1 x2).bind fun v_3 => if (zb v_3) = 0 then (some (0, h)) else (zlet ((x1 * 7) + x2) fun v_5 => (g_X5_barOf h (zR t0 0) x1 (h.1 (zR t0 0) 8)).bind fun v_6 => g_X7_giftsToQuiet_46 t0 zfu x1 x2 v_5 v_6 0 h))
set_option maxRecDepth 100000 in
set_option maxHeartbeats 4000000 in
theorem b_X7_giftsToQuiet_46 {K : zK} {G : zG} (hK : zC K G cX7_giftsToQuiet RX7 7 4 91 (some .int)) {t0 : Nat} (ht0 : zT t0 = (6, 0)) {r : Int32 × zH} (hE : zE K G (some (.int r.1)) r.2) : ∀ (n : Nat) (x1 : Int32) (x2 : Int32) (x3 : Int32) (x4 : Int32) (x5 : Int32) (h : zH), g_X7_giftsToQuiet_46 t0 n x1 x2 x3 x4 x5 h = some r → zW K G 7 46 [(0, .ref (G.2.2.2 t0)), (1, .int x1), (2, .int x2), (3, .int x3), (4, .int x4), (5, .int x5)] [] h := by
  intro n
  induction n with
  | zero => intro x1 x2 x3 x4 x5 h hg; exact nomatch (show none = some r from hg)
  | succ n ih =>
    intro x1 x2 x3 x4 x5 h hg
    rw [g_X7_giftsToQuiet_46] at hg
    obtain ⟨c_7, hg⟩ := zgu_some hg
    refine z_aload_n (pc := 46) hK 0 dX7_giftsToQuiet_46 rfl (z_getR (pc := 47) hK f_X7_9_6 ht0 dX7_giftsToQuiet_47 (z_iload_n (pc := 50) hK 3 dX7_giftsToQuiet_50 rfl (z_iald (pc := 51) hK (zt_6_1 ht0) c_7 dX7_giftsToQuiet_51 (z_iload (pc := 52) hK 4 dX7_giftsToQuiet_52 rfl (z_icmp_lt (pc := 54) hK 91 dX7_giftsToQuiet_54 (by decide) (fun c_8 => ?_) (fun c_8 => ?_))))))
    · rw [if_pos c_8] at hg
      exact z_iload (pc := 91) hK 5 dX7_giftsToQuiet_91 rfl (z_iretE (pc := 93) hK hE hg dX7_giftsToQuiet_93)
    · rw [if_neg c_8] at hg
      refine z_iload (pc := 57) hK 5 dX7_giftsToQuiet_57 rfl (z_bipush (pc := 59) hK dX7_giftsToQuiet_59 zc_b9 (z_icmp_gt (pc := 61) hK 91 dX7_giftsToQuiet_61 (by decide) (fun c_9 => ?_) (fun c_9 => ?_)))
      · rw [if_pos c_9] at hg
        exact z_iload (pc := 91) hK 5 dX7_giftsToQuiet_91 rfl (z_iretE (pc := 93) hK hE hg dX7_giftsToQuiet_93)
      · rw [if_neg c_9] at hg
        obtain ⟨c_10, hg⟩ := zgu_some hg
        obtain ⟨v_11, ev_11, hg⟩ := zlet_some hg
        obtain ⟨v_12, qv_12, hg⟩ := zbind_some hg
        refine z_aload_n (pc := 64) hK 0 dX7_giftsToQuiet_64 rfl (z_getR (pc := 65) hK f_X7_9_6 ht0 dX7_giftsToQuiet_65 (z_iload_n (pc := 68) hK 3 dX7_giftsToQuiet_68 rfl (z_iald (pc := 69) hK (zt_6_1 ht0) c_10 dX7_giftsToQuiet_69 (z_nameI ev_11 (z_istore (pc := 70) hK (lv' := [(6, .int v_11), (0, .ref (G.2.2.2 t0)), (1, .int x1), (2, .int x2), (3, .int x3), (4, .int x4), (5, .int x5)]) dX7_giftsToQuiet_70 (by decide) rfl (z_aload_n (pc := 72) hK 1 dX7_giftsToQuiet_72 rfl (z_iload_n (pc := 73) hK 3 dX7_giftsToQuiet_73 rfl (z_iload_n (pc := 74) hK 2 dX7_giftsToQuiet_74 rfl (z_callVi (pc := 75) hK [.int x2, .int x1] (m_X7_give (zC_D hK) ht0 qv_12) sv_X7_give q_1066 ht0 rfl [] rfl (Nat.le_of_ble_eq_true rfl) ⟨by decide, by decide⟩ dX7_giftsToQuiet_75 (z_iload (pc := 78) hK 0 dX7_giftsToQuiet_78 rfl (z_icmp_lt (pc := 80) hK 85 dX7_giftsToQuiet_80 (by decide) (fun c_13 => ?_) (fun c_13 => ?_))))))))))))
        · rw [if_pos c_13] at hg
          exact z_iinc (pc := 85) hK 6 (lv' := [(5, .int (x5 + 1)), (6, .int v_11), (0, .ref (G.2.2.2 t0)), (1, .int x1), (2, .int x2), (3, .int x3), (4, .int x4)]) dX7_giftsToQuiet_85 rfl (zc_n1 _) (by decide) rfl (z_goto (pc := 88) hK 46 dX7_giftsToQuiet_88 (by decide) (zsub (lv' := [(0, .ref (G.2.2.2 t0)), (1, .int x1), (2, .int x2), (3, .int x3), (4, .int x4), (5, .int (x5 + 1))]) [2, 3, 4, 5, 6, 0] rfl (ih x1 x2 x3 x4 (x5 + 1) v_12.2 hg)))
        · rw [if_neg c_13] at hg
          exact z_iconst (pc := 83) hK dX7_giftsToQuiet_83 zc_im1 (z_iretE (pc := 84) hK hE hg dX7_giftsToQuiet_84)
set_option maxRecDepth 100000 in
set_option maxHeartbeats 4000000 in
theorem b_X7_giftsToQuiet {K : zK} {G : zG} (hK : zC K G cX7_giftsToQuiet RX7 7 4 91 (some .int)) {h : zH} {t0 : Nat} {x1 : Int32} {x2 : Int32} (ht0 : zT t0 = (6, 0)) {r : Int32 × zH} (hE : zE K G (some (.int r.1)) r.2) (hg : g_X7_giftsToQuiet h t0 x1 x2 = some r) : zW K G 7 0 [(0, .ref (G.2.2.2 t0)), (1, .int x1), (2, .int x2)] [] h := by
  rw [g_X7_giftsToQuiet] at hg
  obtain ⟨v_1, qv_1, hg⟩ := zbind_some hg
  refine z_aload_n (pc := 0) hK 0 dX7_giftsToQuiet_0 rfl (z_iload_n (pc := 1) hK 1 dX7_giftsToQuiet_1 rfl (z_callVi (pc := 2) hK [.int x1] (m_X7_castsOnDays (zC_D hK) ht0 qv_1) sv_X7_castsOnDays q_1028 ht0 rfl [] rfl (Nat.le_of_ble_eq_true rfl) ⟨by decide, by decide⟩ dX7_giftsToQuiet_2 (z_if_eq (pc := 5) hK 17 dX7_giftsToQuiet_5 (by decide) (fun c_2 => ?_) (fun c_2 => ?_))))
  · rw [if_pos c_2] at hg
    exact z_iconst (pc := 17) hK dX7_giftsToQuiet_17 zc_i0 (z_iretE (pc := 18) hK hE hg dX7_giftsToQuiet_18)
  · rw [if_neg c_2] at hg
    obtain ⟨v_3, qv_3, hg⟩ := zbind_some hg
    refine z_aload_n (pc := 8) hK 0 dX7_giftsToQuiet_8 rfl (z_iload_n (pc := 9) hK 1 dX7_giftsToQuiet_9 rfl (z_iload_n (pc := 10) hK 2 dX7_giftsToQuiet_10 rfl (z_callVi (pc := 11) hK [.int x1, .int x2] (m_X7_areTwoAlive (zC_D hK) ht0 qv_3) sv_X7_areTwoAlive q_1003 ht0 rfl [] rfl (Nat.le_of_ble_eq_true rfl) ⟨by decide, by decide⟩ dX7_giftsToQuiet_11 (z_if_ne (pc := 14) hK 19 dX7_giftsToQuiet_14 (by decide) (fun c_4 => ?_) (fun c_4 => ?_)))))
    · rw [if_neg c_4] at hg
      obtain ⟨v_5, ev_5, hg⟩ := zlet_some hg
      obtain ⟨v_6, qv_6, hg⟩ := zbind_some hg
      exact z_iload_n (pc := 19) hK 1 dX7_giftsToQuiet_19 rfl (z_bipush (pc := 20) hK dX7_giftsToQuiet_20 zc_b7 (z_imul (pc := 22) hK dX7_giftsToQuiet_22 (z_iload_n (pc := 23) hK 2 dX7_giftsToQuiet_23 rfl (z_iadd (pc := 24) hK dX7_giftsToQuiet_24 (z_nameI ev_5 (z_istore_n (pc := 25) hK (lv' := [(3, .int v_5), (0, .ref (G.2.2.2 t0)), (1, .int x1), (2, .int x2)]) dX7_giftsToQuiet_25 (by decide) rfl (z_aload_n (pc := 26) hK 1 dX7_giftsToQuiet_26 rfl (z_getR (pc := 27) hK f_X7_21_6 ht0 dX7_giftsToQuiet_27 (z_iload_n (pc := 30) hK 2 dX7_giftsToQuiet_30 rfl (z_aload_n (pc := 31) hK 1 dX7_giftsToQuiet_31 rfl (z_getR (pc := 32) hK f_X7_21_6 ht0 dX7_giftsToQuiet_32 (z_getI (pc := 35) hK f_X7_145_4 (zt_6_0 ht0) dX7_giftsToQuiet_35 (z_callVi (pc := 38) hK [.int x1, .int (h.1 (zR t0 0) 8)] (m_X5_barOf (zC_D hK) (zt_6_0 ht0) qv_6) sv_X5_barOf q_1036 (zt_6_0 ht0) rfl [] rfl (Nat.le_of_ble_eq_true rfl) ⟨by decide, by decide⟩ dX7_giftsToQuiet_38 (z_istore (pc := 41) hK (lv' := [(4, .int v_6), (3, .int v_5), (0, .ref (G.2.2.2 t0)), (1, .int x1), (2, .int x2)]) dX7_giftsToQuiet_41 (by decide) rfl (z_iconst (pc := 43) hK dX7_giftsToQuiet_43 zc_i0 (z_istore (pc := 44) hK (lv' := [(5, .int 0), (4, .int v_6), (3, .int v_5), (0, .ref (G.2.2.2 t0)), (1, .int x1), (2, .int x2)]) dX7_giftsToQuiet_44 (by decide) rfl (zsub (lv' := [(0, .ref (G.2.2.2 t0)), (1, .int x1), (2, .int x2), (3, .int v_5), (4, .int v_6), (5, .int 0)]) [3, 4, 5, 2, 1, 0] rfl (b_X7_giftsToQuiet_46 hK ht0 hE zfu x1 x2 v_5 v_6 0 h hg))))))))))))))))))
    · rw [if_pos c_4] at hg
      exact z_iconst (pc := 17) hK dX7_giftsToQuiet_17 zc_i0 (z_iretE (pc := 18) hK hE hg dX7_giftsToQuiet_18)
theorem m_X7_giftsToQuiet {l : Launch} {G : zG} (hG : zD G) {h : zH} {t0 : Nat} {x1 : Int32} {x2 : Int32} (ht0 : zT t0 = (6, 0)) {r : Int32 × zH} (hg : g_X7_giftsToQuiet h t0 x1 x2 = some r) : zM l G yX7_giftsToQuiet cX7_giftsToQuiet 7 (some .int) 4 91 [.ref (G.2.2.2 t0), .int x1, .int x2] h (some (.int r.1)) r.2 :=
  zM_of hG pn_X7 (Nat.le_of_ble_eq_true rfl) (fun K _ hK hE => b_X7_giftsToQuiet hK ht0 hE hg)
theorem dX7_voters_0 : decode cX7_voters 0 = .ok (.iconst 0, 1) := by decide +kernel
theorem dX7_voters_1 : decode cX7_voters 1 = .ok (.istore_n 1, 1) := by decide +kernel
theorem dX7_voters_2 : decode cX7_voters 2 = .ok (.iconst 0, 1) := by decide +kernel
theorem dX7_voters_3 : decode cX7_voters 3 = .ok (.istore_n 2, 1) := by decide +kernel
theorem dX7_voters_4 : decode cX7_voters 4 = .ok (.iload_n 2, 1) := by decide +kernel
theorem dX7_voters_5 : decode cX7_voters 5 = .ok (.aload_n 0, 1) := by decide +kernel
theorem dX7_voters_6 : decode cX7_voters 6 = .ok (.getfield 21, 3) := by decide +kernel
theorem dX7_voters_9 : decode cX7_voters 9 = .ok (.getfield 40, 3) := by decide +kernel
theorem dX7_voters_12 : decode cX7_voters 12 = .ok (.if_icmp .ge 32, 3) := by decide +kernel
theorem dX7_voters_15 : decode cX7_voters 15 = .ok (.aload_n 0, 1) := by decide +kernel
theorem dX7_voters_16 : decode cX7_voters 16 = .ok (.iload_n 2, 1) := by decide +kernel
theorem dX7_voters_17 : decode cX7_voters 17 = .ok (.invokevirtual 60, 3) := by decide +kernel
theorem dX7_voters_20 : decode cX7_voters 20 = .ok (.ifCond .eq 18, 3) := by decide +kernel
theorem dX7_voters_23 : decode cX7_voters 23 = .ok (.aload_n 0, 1) := by decide +kernel
theorem dX7_voters_24 : decode cX7_voters 24 = .ok (.getfield 18, 3) := by decide +kernel
theorem dX7_voters_27 : decode cX7_voters 27 = .ok (.iload_n 2, 1) := by decide +kernel
theorem dX7_voters_28 : decode cX7_voters 28 = .ok (.iaload, 1) := by decide +kernel
theorem dX7_voters_29 : decode cX7_voters 29 = .ok (.ifCond .le 9, 3) := by decide +kernel
theorem dX7_voters_32 : decode cX7_voters 32 = .ok (.iload_n 1, 1) := by decide +kernel
theorem dX7_voters_33 : decode cX7_voters 33 = .ok (.iconst 1, 1) := by decide +kernel
theorem dX7_voters_34 : decode cX7_voters 34 = .ok (.iload_n 2, 1) := by decide +kernel
theorem dX7_voters_35 : decode cX7_voters 35 = .ok (.ishl, 1) := by decide +kernel
theorem dX7_voters_36 : decode cX7_voters 36 = .ok (.ior, 1) := by decide +kernel
theorem dX7_voters_37 : decode cX7_voters 37 = .ok (.istore_n 1, 1) := by decide +kernel
theorem dX7_voters_38 : decode cX7_voters 38 = .ok (.iinc 2 1, 3) := by decide +kernel
theorem dX7_voters_41 : decode cX7_voters 41 = .ok (.goto (-37), 3) := by decide +kernel
theorem dX7_voters_44 : decode cX7_voters 44 = .ok (.iload_n 1, 1) := by decide +kernel
theorem dX7_voters_45 : decode cX7_voters 45 = .ok (.ireturn, 1) := by decide +kernel
def g_X7_voters_4 (h : zH) (t0 : Nat)  : Nat → Int32 → Int32 → Option Int32
  | 0, _, _ => none
  | n + 1, x1, x2 => if (h.1 (zR t0 0) 7) ≤ x2 then (some x1) else ((g_X7_isAlive h t0 x2).bind fun v_2 => if (zb v_2) = 0 then (g_X7_voters_4 h t0 n x1 (x2 + 1)) else (zgu (zin x2 7) <| if (h.1 (zR t0 3) (zx x2)) ≤ 0 then (g_X7_voters_4 h t0 n x1 (x2 + 1)) else (zlet (x1 ||| ((1 : Int32) <<< (x2 &&& 31))) fun v_6 => g_X7_voters_4 h t0 n v_6 (x2 + 1))))
def g_X7_voters (h : zH) (t0 : Nat) : Option Int32 := g_X7_voters_4 h t0 zfu 0 0
set_option maxRecDepth 100000 in
set_option maxHeartbeats 4000000 in
theorem b_X7_voters_4 {K : zK} {G : zG} (hK : zC K G cX7_voters RX7 3 1 21 (some .int)) {h : zH} {t0 : Nat} (ht0 : zT t0 = (6, 0)) {r : Int32} (hE : zE K G (some (.int r)) h) : ∀ (n : Nat) (x1 : Int32) (x2 : Int32), g_X7_voters_4 h t0 n x1 x2 = some r → zW K G 3 4 [(0, .ref (G.2.2.2 t0)), (1, .int x1), (2, .int x2)] [] h := by
  intro n
  induction n with
  | zero => intro x1 x2 hg; exact nomatch (show none = some r from hg)
  | succ n ih =>
    intro x1 x2 hg
    rw [g_X7_voters_4] at hg
    refine z_iload_n (pc := 4) hK 2 dX7_voters_4 rfl (z_aload_n (pc := 5) hK 0 dX7_voters_5 rfl (z_getR (pc := 6) hK f_X7_21_6 ht0 dX7_voters_6 (z_getI (pc := 9) hK f_X7_40_4 (zt_6_0 ht0) dX7_voters_9 (z_icmp_ge (pc := 12) hK 44 dX7_voters_12 (by decide) (fun c_1 => ?_) (fun c_1 => ?_)))))
    · rw [if_pos c_1] at hg
      exact z_iload_n (pc := 44) hK 1 dX7_voters_44 rfl (z_iretP (pc := 45) hK hE hg dX7_voters_45)
    · rw [if_neg c_1] at hg
      obtain ⟨v_2, qv_2, hg⟩ := zbind_some hg
      refine z_aload_n (pc := 15) hK 0 dX7_voters_15 rfl (z_iload_n (pc := 16) hK 2 dX7_voters_16 rfl (z_callVi (pc := 17) hK [.int x2] (m_X7_isAlive (zC_D hK) ht0 qv_2) sv_X7_isAlive q_883 ht0 rfl [] rfl (Nat.le_of_ble_eq_true rfl) ⟨by decide, by decide⟩ dX7_voters_17 (z_if_eq (pc := 20) hK 38 dX7_voters_20 (by decide) (fun c_3 => ?_) (fun c_3 => ?_))))
      · rw [if_pos c_3] at hg
        exact z_iinc (pc := 38) hK 2 (lv' := [(2, .int (x2 + 1)), (0, .ref (G.2.2.2 t0)), (1, .int x1)]) dX7_voters_38 rfl (zc_n1 _) (by decide) rfl (z_goto (pc := 41) hK 4 dX7_voters_41 (by decide) (zsub (lv' := [(0, .ref (G.2.2.2 t0)), (1, .int x1), (2, .int (x2 + 1))]) [1, 2, 0] rfl (ih x1 (x2 + 1) hg)))
      · rw [if_neg c_3] at hg
        obtain ⟨c_4, hg⟩ := zgu_some hg
        refine z_aload_n (pc := 23) hK 0 dX7_voters_23 rfl (z_getR (pc := 24) hK f_X7_18_6 ht0 dX7_voters_24 (z_iload_n (pc := 27) hK 2 dX7_voters_27 rfl (z_iald (pc := 28) hK (zt_6_3 ht0) c_4 dX7_voters_28 (z_if_le (pc := 29) hK 38 dX7_voters_29 (by decide) (fun c_5 => ?_) (fun c_5 => ?_)))))
        · rw [if_pos c_5] at hg
          exact z_iinc (pc := 38) hK 2 (lv' := [(2, .int (x2 + 1)), (0, .ref (G.2.2.2 t0)), (1, .int x1)]) dX7_voters_38 rfl (zc_n1 _) (by decide) rfl (z_goto (pc := 41) hK 4 dX7_voters_41 (by decide) (zsub (lv' := [(0, .ref (G.2.2.2 t0)), (1, .int x1), (2, .int (x2 + 1))]) [1, 2, 0] rfl (ih x1 (x2 + 1) hg)))
        · rw [if_neg c_5] at hg
          obtain ⟨v_6, ev_6, hg⟩ := zlet_some hg
          exact z_iload_n (pc := 32) hK 1 dX7_voters_32 rfl (z_iconst (pc := 33) hK dX7_voters_33 zc_i1 (z_iload_n (pc := 34) hK 2 dX7_voters_34 rfl (z_ishl (pc := 35) hK dX7_voters_35 (z_ior (pc := 36) hK dX7_voters_36 (z_nameI ev_6 (z_istore_n (pc := 37) hK (lv' := [(1, .int v_6), (0, .ref (G.2.2.2 t0)), (2, .int x2)]) dX7_voters_37 (by decide) rfl (z_iinc (pc := 38) hK 2 (lv' := [(2, .int (x2 + 1)), (1, .int v_6), (0, .ref (G.2.2.2 t0))]) dX7_voters_38 rfl (zc_n1 _) (by decide) rfl (z_goto (pc := 41) hK 4 dX7_voters_41 (by decide) (zsub (lv' := [(0, .ref (G.2.2.2 t0)), (1, .int v_6), (2, .int (x2 + 1))]) [2, 1, 0] rfl (ih v_6 (x2 + 1) hg))))))))))
set_option maxRecDepth 100000 in
set_option maxHeartbeats 4000000 in
theorem b_X7_voters {K : zK} {G : zG} (hK : zC K G cX7_voters RX7 3 1 21 (some .int)) {h : zH} {t0 : Nat} (ht0 : zT t0 = (6, 0)) {r : Int32} (hE : zE K G (some (.int r)) h) (hg : g_X7_voters h t0 = some r) : zW K G 3 0 [(0, .ref (G.2.2.2 t0))] [] h := by
  rw [g_X7_voters] at hg
  exact z_iconst (pc := 0) hK dX7_voters_0 zc_i0 (z_istore_n (pc := 1) hK (lv' := [(1, .int 0), (0, .ref (G.2.2.2 t0))]) dX7_voters_1 (by decide) rfl (z_iconst (pc := 2) hK dX7_voters_2 zc_i0 (z_istore_n (pc := 3) hK (lv' := [(2, .int 0), (1, .int 0), (0, .ref (G.2.2.2 t0))]) dX7_voters_3 (by decide) rfl (zsub (lv' := [(0, .ref (G.2.2.2 t0)), (1, .int 0), (2, .int 0)]) [2, 1, 0] rfl (b_X7_voters_4 hK ht0 hE zfu 0 0 hg)))))
theorem m_X7_voters {l : Launch} {G : zG} (hG : zD G) {h : zH} {t0 : Nat} (ht0 : zT t0 = (6, 0)) {r : Int32} (hg : g_X7_voters h t0 = some r) : zM l G yX7_voters cX7_voters 3 (some .int) 1 21 [.ref (G.2.2.2 t0)] h (some (.int r)) h :=
  zM_of hG pn_X7 (Nat.le_of_ble_eq_true rfl) (fun K _ hK hE => b_X7_voters hK ht0 hE hg)
theorem dX7_allGrudges_0 : decode cX7_allGrudges 0 = .ok (.iconst 0, 1) := by decide +kernel
theorem dX7_allGrudges_1 : decode cX7_allGrudges 1 = .ok (.istore_n 1, 1) := by decide +kernel
theorem dX7_allGrudges_2 : decode cX7_allGrudges 2 = .ok (.iconst 0, 1) := by decide +kernel
theorem dX7_allGrudges_3 : decode cX7_allGrudges 3 = .ok (.istore_n 2, 1) := by decide +kernel
theorem dX7_allGrudges_4 : decode cX7_allGrudges 4 = .ok (.iload_n 2, 1) := by decide +kernel
theorem dX7_allGrudges_5 : decode cX7_allGrudges 5 = .ok (.aload_n 0, 1) := by decide +kernel
theorem dX7_allGrudges_6 : decode cX7_allGrudges 6 = .ok (.getfield 21, 3) := by decide +kernel
theorem dX7_allGrudges_9 : decode cX7_allGrudges 9 = .ok (.getfield 40, 3) := by decide +kernel
theorem dX7_allGrudges_12 : decode cX7_allGrudges 12 = .ok (.if_icmp .ge 55, 3) := by decide +kernel
theorem dX7_allGrudges_15 : decode cX7_allGrudges 15 = .ok (.iconst 0, 1) := by decide +kernel
theorem dX7_allGrudges_16 : decode cX7_allGrudges 16 = .ok (.istore_n 3, 1) := by decide +kernel
theorem dX7_allGrudges_17 : decode cX7_allGrudges 17 = .ok (.iload_n 3, 1) := by decide +kernel
theorem dX7_allGrudges_18 : decode cX7_allGrudges 18 = .ok (.aload_n 0, 1) := by decide +kernel
theorem dX7_allGrudges_19 : decode cX7_allGrudges 19 = .ok (.getfield 21, 3) := by decide +kernel
theorem dX7_allGrudges_22 : decode cX7_allGrudges 22 = .ok (.getfield 40, 3) := by decide +kernel
theorem dX7_allGrudges_25 : decode cX7_allGrudges 25 = .ok (.if_icmp .ge 36, 3) := by decide +kernel
theorem dX7_allGrudges_28 : decode cX7_allGrudges 28 = .ok (.iload_n 1, 1) := by decide +kernel
theorem dX7_allGrudges_29 : decode cX7_allGrudges 29 = .ok (.aload_n 0, 1) := by decide +kernel
theorem dX7_allGrudges_30 : decode cX7_allGrudges 30 = .ok (.iload_n 2, 1) := by decide +kernel
theorem dX7_allGrudges_31 : decode cX7_allGrudges 31 = .ok (.iload_n 3, 1) := by decide +kernel
theorem dX7_allGrudges_32 : decode cX7_allGrudges 32 = .ok (.invokevirtual 113, 3) := by decide +kernel
theorem dX7_allGrudges_35 : decode cX7_allGrudges 35 = .ok (.ifCond .eq 17, 3) := by decide +kernel
theorem dX7_allGrudges_38 : decode cX7_allGrudges 38 = .ok (.aload_n 0, 1) := by decide +kernel
theorem dX7_allGrudges_39 : decode cX7_allGrudges 39 = .ok (.getfield 9, 3) := by decide +kernel
theorem dX7_allGrudges_42 : decode cX7_allGrudges 42 = .ok (.iload_n 2, 1) := by decide +kernel
theorem dX7_allGrudges_43 : decode cX7_allGrudges 43 = .ok (.bipush 7, 2) := by decide +kernel
theorem dX7_allGrudges_45 : decode cX7_allGrudges 45 = .ok (.imul, 1) := by decide +kernel
theorem dX7_allGrudges_46 : decode cX7_allGrudges 46 = .ok (.iload_n 3, 1) := by decide +kernel
theorem dX7_allGrudges_47 : decode cX7_allGrudges 47 = .ok (.iadd, 1) := by decide +kernel
theorem dX7_allGrudges_48 : decode cX7_allGrudges 48 = .ok (.iaload, 1) := by decide +kernel
theorem dX7_allGrudges_49 : decode cX7_allGrudges 49 = .ok (.goto 4, 3) := by decide +kernel
theorem dX7_allGrudges_52 : decode cX7_allGrudges 52 = .ok (.iconst 0, 1) := by decide +kernel
theorem dX7_allGrudges_53 : decode cX7_allGrudges 53 = .ok (.iadd, 1) := by decide +kernel
theorem dX7_allGrudges_54 : decode cX7_allGrudges 54 = .ok (.istore_n 1, 1) := by decide +kernel
theorem dX7_allGrudges_55 : decode cX7_allGrudges 55 = .ok (.iinc 3 1, 3) := by decide +kernel
theorem dX7_allGrudges_58 : decode cX7_allGrudges 58 = .ok (.goto (-41), 3) := by decide +kernel
theorem dX7_allGrudges_61 : decode cX7_allGrudges 61 = .ok (.iinc 2 1, 3) := by decide +kernel
theorem dX7_allGrudges_64 : decode cX7_allGrudges 64 = .ok (.goto (-60), 3) := by decide +kernel
theorem dX7_allGrudges_67 : decode cX7_allGrudges 67 = .ok (.iload_n 1, 1) := by decide +kernel
theorem dX7_allGrudges_68 : decode cX7_allGrudges 68 = .ok (.ireturn, 1) := by decide +kernel
def g_X7_allGrudges_17 (h : zH) (t0 : Nat) (k4 : Int32 → Int32 → Option Int32) : Nat → Int32 → Int32 → Int32 → Option Int32
  | 0, _, _, _ => none
  | n + 1, x1, x2, x3 => if (h.1 (zR t0 0) 7) ≤ x3 then (k4 x1 (x2 + 1)) else ((g_X7_areTwoAlive h t0 x2 x3).bind fun v_3 => if (zb v_3) = 0 then (g_X7_allGrudges_17 h t0 k4 n (x1 + 0) x2 (x3 + 1)) else (zgu (zin ((x2 * 7) + x3) 49) <| zlet (x1 + (h.1 (zR t0 1) (zx ((x2 * 7) + x3)))) fun v_6 => g_X7_allGrudges_17 h t0 k4 n v_6 x2 (x3 + 1)))
def g_X7_allGrudges_4 (h : zH) (t0 : Nat)  : Nat → Int32 → Int32 → Option Int32
  | 0, _, _ => none
  | n + 1, x1, x2 => if (h.1 (zR t0 0) 7) ≤ x2 then (some x1) else (g_X7_allGrudges_17 h t0 (g_X7_allGrudges_4 h t0 n) zfu x1 x2 0)
def g_X7_allGrudges (h : zH) (t0 : Nat) : Option Int32 := g_X7_allGrudges_4 h t0 zfu 0 0
set_option maxRecDepth 100000 in
set_option maxHeartbeats 4000000 in
theorem b_X7_allGrudges_17 {K : zK} {G : zG} (hK : zC K G cX7_allGrudges RX7 4 2 43 (some .int)) {h : zH} {t0 : Nat} (ht0 : zT t0 = (6, 0)) {r : Int32} (hE : zE K G (some (.int r)) h) {k4 : Int32 → Int32 → Option Int32} (hk4 : ∀ (x1 : Int32) (x2 : Int32), k4 x1 x2 = some r → zW K G 4 4 [(0, .ref (G.2.2.2 t0)), (1, .int x1), (2, .int x2)] [] h) : ∀ (n : Nat) (x1 : Int32) (x2 : Int32) (x3 : Int32), g_X7_allGrudges_17 h t0 k4 n x1 x2 x3 = some r → zW K G 4 17 [(0, .ref (G.2.2.2 t0)), (1, .int x1), (2, .int x2), (3, .int x3)] [] h := by
  intro n
  induction n with
  | zero => intro x1 x2 x3 hg; exact nomatch (show none = some r from hg)
  | succ n ih =>
    intro x1 x2 x3 hg
    rw [g_X7_allGrudges_17] at hg
    refine z_iload_n (pc := 17) hK 3 dX7_allGrudges_17 rfl (z_aload_n (pc := 18) hK 0 dX7_allGrudges_18 rfl (z_getR (pc := 19) hK f_X7_21_6 ht0 dX7_allGrudges_19 (z_getI (pc := 22) hK f_X7_40_4 (zt_6_0 ht0) dX7_allGrudges_22 (z_icmp_ge (pc := 25) hK 61 dX7_allGrudges_25 (by decide) (fun c_2 => ?_) (fun c_2 => ?_)))))
    · rw [if_pos c_2] at hg
      exact z_iinc (pc := 61) hK 2 (lv' := [(2, .int (x2 + 1)), (0, .ref (G.2.2.2 t0)), (1, .int x1), (3, .int x3)]) dX7_allGrudges_61 rfl (zc_n1 _) (by decide) rfl (z_goto (pc := 64) hK 4 dX7_allGrudges_64 (by decide) (zsub (lv' := [(0, .ref (G.2.2.2 t0)), (1, .int x1), (2, .int (x2 + 1))]) [1, 2, 0] rfl (hk4 x1 (x2 + 1) hg)))
    · rw [if_neg c_2] at hg
      obtain ⟨v_3, qv_3, hg⟩ := zbind_some hg
      refine z_iload_n (pc := 28) hK 1 dX7_allGrudges_28 rfl (z_aload_n (pc := 29) hK 0 dX7_allGrudges_29 rfl (z_iload_n (pc := 30) hK 2 dX7_allGrudges_30 rfl (z_iload_n (pc := 31) hK 3 dX7_allGrudges_31 rfl (z_callVi (pc := 32) hK [.int x2, .int x3] (m_X7_areTwoAlive (zC_D hK) ht0 qv_3) sv_X7_areTwoAlive q_1003 ht0 rfl [.int x1] rfl (Nat.le_of_ble_eq_true rfl) ⟨by decide, by decide⟩ dX7_allGrudges_32 (z_if_eq (pc := 35) hK 52 dX7_allGrudges_35 (by decide) (fun c_4 => ?_) (fun c_4 => ?_))))))
      · rw [if_pos c_4] at hg
        exact z_iconst (pc := 52) hK dX7_allGrudges_52 zc_i0 (z_iadd (pc := 53) hK dX7_allGrudges_53 (z_istore_n (pc := 54) hK (lv' := [(1, .int (x1 + 0)), (0, .ref (G.2.2.2 t0)), (2, .int x2), (3, .int x3)]) dX7_allGrudges_54 (by decide) rfl (z_iinc (pc := 55) hK 3 (lv' := [(3, .int (x3 + 1)), (1, .int (x1 + 0)), (0, .ref (G.2.2.2 t0)), (2, .int x2)]) dX7_allGrudges_55 rfl (zc_n1 _) (by decide) rfl (z_goto (pc := 58) hK 17 dX7_allGrudges_58 (by decide) (zsub (lv' := [(0, .ref (G.2.2.2 t0)), (1, .int (x1 + 0)), (2, .int x2), (3, .int (x3 + 1))]) [2, 1, 3, 0] rfl (ih (x1 + 0) x2 (x3 + 1) hg))))))
      · rw [if_neg c_4] at hg
        obtain ⟨c_5, hg⟩ := zgu_some hg
        obtain ⟨v_6, ev_6, hg⟩ := zlet_some hg
        exact z_aload_n (pc := 38) hK 0 dX7_allGrudges_38 rfl (z_getR (pc := 39) hK f_X7_9_6 ht0 dX7_allGrudges_39 (z_iload_n (pc := 42) hK 2 dX7_allGrudges_42 rfl (z_bipush (pc := 43) hK dX7_allGrudges_43 zc_b7 (z_imul (pc := 45) hK dX7_allGrudges_45 (z_iload_n (pc := 46) hK 3 dX7_allGrudges_46 rfl (z_iadd (pc := 47) hK dX7_allGrudges_47 (z_iald (pc := 48) hK (zt_6_1 ht0) c_5 dX7_allGrudges_48 (z_goto (pc := 49) hK 53 dX7_allGrudges_49 (by decide) (z_iadd (pc := 53) hK dX7_allGrudges_53 (z_nameI ev_6 (z_istore_n (pc := 54) hK (lv' := [(1, .int v_6), (0, .ref (G.2.2.2 t0)), (2, .int x2), (3, .int x3)]) dX7_allGrudges_54 (by decide) rfl (z_iinc (pc := 55) hK 3 (lv' := [(3, .int (x3 + 1)), (1, .int v_6), (0, .ref (G.2.2.2 t0)), (2, .int x2)]) dX7_allGrudges_55 rfl (zc_n1 _) (by decide) rfl (z_goto (pc := 58) hK 17 dX7_allGrudges_58 (by decide) (zsub (lv' := [(0, .ref (G.2.2.2 t0)), (1, .int v_6), (2, .int x2), (3, .int (x3 + 1))]) [2, 1, 3, 0] rfl (ih v_6 x2 (x3 + 1) hg)))))))))))))))
set_option maxRecDepth 100000 in
set_option maxHeartbeats 4000000 in
theorem b_X7_allGrudges_4 {K : zK} {G : zG} (hK : zC K G cX7_allGrudges RX7 4 2 43 (some .int)) {h : zH} {t0 : Nat} (ht0 : zT t0 = (6, 0)) {r : Int32} (hE : zE K G (some (.int r)) h) : ∀ (n : Nat) (x1 : Int32) (x2 : Int32), g_X7_allGrudges_4 h t0 n x1 x2 = some r → zW K G 4 4 [(0, .ref (G.2.2.2 t0)), (1, .int x1), (2, .int x2)] [] h := by
  intro n
  induction n with
  | zero => intro x1 x2 hg; exact nomatch (show none = some r from hg)
  | succ n ih =>
    intro x1 x2 hg
    rw [g_X7_allGrudges_4] at hg
    refine z_iload_n (pc := 4) hK 2 dX7_allGrudges_4 rfl (z_aload_n (pc := 5) hK 0 dX7_allGrudges_5 rfl (z_getR (pc := 6) hK f_X7_21_6 ht0 dX7_allGrudges_6 (z_getI (pc := 9) hK f_X7_40_4 (zt_6_0 ht0) dX7_allGrudges_9 (z_icmp_ge (pc := 12) hK 67 dX7_allGrudges_12 (by decide) (fun c_1 => ?_) (fun c_1 => ?_)))))
    · rw [if_pos c_1] at hg
      exact z_iload_n (pc := 67) hK 1 dX7_allGrudges_67 rfl (z_iretP (pc := 68) hK hE hg dX7_allGrudges_68)
    · rw [if_neg c_1] at hg
      exact z_iconst (pc := 15) hK dX7_allGrudges_15 zc_i0 (z_istore_n (pc := 16) hK (lv' := [(3, .int 0), (0, .ref (G.2.2.2 t0)), (1, .int x1), (2, .int x2)]) dX7_allGrudges_16 (by decide) rfl (zsub (lv' := [(0, .ref (G.2.2.2 t0)), (1, .int x1), (2, .int x2), (3, .int 0)]) [1, 2, 3, 0] rfl (b_X7_allGrudges_17 hK ht0 hE ih zfu x1 x2 0 hg)))
set_option maxRecDepth 100000 in
set_option maxHeartbeats 4000000 in
theorem b_X7_allGrudges {K : zK} {G : zG} (hK : zC K G cX7_allGrudges RX7 4 2 43 (some .int)) {h : zH} {t0 : Nat} (ht0 : zT t0 = (6, 0)) {r : Int32} (hE : zE K G (some (.int r)) h) (hg : g_X7_allGrudges h t0 = some r) : zW K G 4 0 [(0, .ref (G.2.2.2 t0))] [] h := by
  rw [g_X7_allGrudges] at hg
  exact z_iconst (pc := 0) hK dX7_allGrudges_0 zc_i0 (z_istore_n (pc := 1) hK (lv' := [(1, .int 0), (0, .ref (G.2.2.2 t0))]) dX7_allGrudges_1 (by decide) rfl (z_iconst (pc := 2) hK dX7_allGrudges_2 zc_i0 (z_istore_n (pc := 3) hK (lv' := [(2, .int 0), (1, .int 0), (0, .ref (G.2.2.2 t0))]) dX7_allGrudges_3 (by decide) rfl (zsub (lv' := [(0, .ref (G.2.2.2 t0)), (1, .int 0), (2, .int 0)]) [2, 1, 0] rfl (b_X7_allGrudges_4 hK ht0 hE zfu 0 0 hg)))))
theorem m_X7_allGrudges {l : Launch} {G : zG} (hG : zD G) {h : zH} {t0 : Nat} (ht0 : zT t0 = (6, 0)) {r : Int32} (hg : g_X7_allGrudges h t0 = some r) : zM l G yX7_allGrudges cX7_allGrudges 4 (some .int) 2 43 [.ref (G.2.2.2 t0)] h (some (.int r)) h :=
  zM_of hG pn_X7 (Nat.le_of_ble_eq_true rfl) (fun K _ hK hE => b_X7_allGrudges hK ht0 hE hg)
theorem dX7_allCasts_0 : decode cX7_allCasts 0 = .ok (.iconst 0, 1) := by decide +kernel
theorem dX7_allCasts_1 : decode cX7_allCasts 1 = .ok (.istore_n 1, 1) := by decide +kernel
theorem dX7_allCasts_2 : decode cX7_allCasts 2 = .ok (.iconst 0, 1) := by decide +kernel
theorem dX7_allCasts_3 : decode cX7_allCasts 3 = .ok (.istore_n 2, 1) := by decide +kernel
theorem dX7_allCasts_4 : decode cX7_allCasts 4 = .ok (.iload_n 2, 1) := by decide +kernel
theorem dX7_allCasts_5 : decode cX7_allCasts 5 = .ok (.aload_n 0, 1) := by decide +kernel
theorem dX7_allCasts_6 : decode cX7_allCasts 6 = .ok (.getfield 21, 3) := by decide +kernel
theorem dX7_allCasts_9 : decode cX7_allCasts 9 = .ok (.getfield 40, 3) := by decide +kernel
theorem dX7_allCasts_12 : decode cX7_allCasts 12 = .ok (.if_icmp .ge 17, 3) := by decide +kernel
theorem dX7_allCasts_15 : decode cX7_allCasts 15 = .ok (.iload_n 1, 1) := by decide +kernel
theorem dX7_allCasts_16 : decode cX7_allCasts 16 = .ok (.aload_n 0, 1) := by decide +kernel
theorem dX7_allCasts_17 : decode cX7_allCasts 17 = .ok (.iload_n 2, 1) := by decide +kernel
theorem dX7_allCasts_18 : decode cX7_allCasts 18 = .ok (.invokevirtual 163, 3) := by decide +kernel
theorem dX7_allCasts_21 : decode cX7_allCasts 21 = .ok (.iadd, 1) := by decide +kernel
theorem dX7_allCasts_22 : decode cX7_allCasts 22 = .ok (.istore_n 1, 1) := by decide +kernel
theorem dX7_allCasts_23 : decode cX7_allCasts 23 = .ok (.iinc 2 1, 3) := by decide +kernel
theorem dX7_allCasts_26 : decode cX7_allCasts 26 = .ok (.goto (-22), 3) := by decide +kernel
theorem dX7_allCasts_29 : decode cX7_allCasts 29 = .ok (.iload_n 1, 1) := by decide +kernel
theorem dX7_allCasts_30 : decode cX7_allCasts 30 = .ok (.ireturn, 1) := by decide +kernel
def g_X7_allCasts_4 (h : zH) (t0 : Nat)  : Nat → Int32 → Int32 → Option Int32
  | 0, _, _ => none
  | n + 1, x1, x2 => if (h.1 (zR t0 0) 7) ≤ x2 then (some x1) else ((g_X7_castBy h t0 x2).bind fun v_2 => g_X7_allCasts_4 h t0 n (x1 + v_2) (x2 + 1))
def g_X7_allCasts (h : zH) (t0 : Nat) : Option Int32 := g_X7_allCasts_4 h t0 zfu 0 0
set_option maxRecDepth 100000 in
set_option maxHeartbeats 4000000 in
theorem b_X7_allCasts_4 {K : zK} {G : zG} (hK : zC K G cX7_allCasts RX7 3 1 23 (some .int)) {h : zH} {t0 : Nat} (ht0 : zT t0 = (6, 0)) {r : Int32} (hE : zE K G (some (.int r)) h) : ∀ (n : Nat) (x1 : Int32) (x2 : Int32), g_X7_allCasts_4 h t0 n x1 x2 = some r → zW K G 3 4 [(0, .ref (G.2.2.2 t0)), (1, .int x1), (2, .int x2)] [] h := by
  intro n
  induction n with
  | zero => intro x1 x2 hg; exact nomatch (show none = some r from hg)
  | succ n ih =>
    intro x1 x2 hg
    rw [g_X7_allCasts_4] at hg
    refine z_iload_n (pc := 4) hK 2 dX7_allCasts_4 rfl (z_aload_n (pc := 5) hK 0 dX7_allCasts_5 rfl (z_getR (pc := 6) hK f_X7_21_6 ht0 dX7_allCasts_6 (z_getI (pc := 9) hK f_X7_40_4 (zt_6_0 ht0) dX7_allCasts_9 (z_icmp_ge (pc := 12) hK 29 dX7_allCasts_12 (by decide) (fun c_1 => ?_) (fun c_1 => ?_)))))
    · rw [if_pos c_1] at hg
      exact z_iload_n (pc := 29) hK 1 dX7_allCasts_29 rfl (z_iretP (pc := 30) hK hE hg dX7_allCasts_30)
    · rw [if_neg c_1] at hg
      obtain ⟨v_2, qv_2, hg⟩ := zbind_some hg
      exact z_iload_n (pc := 15) hK 1 dX7_allCasts_15 rfl (z_aload_n (pc := 16) hK 0 dX7_allCasts_16 rfl (z_iload_n (pc := 17) hK 2 dX7_allCasts_17 rfl (z_callVi (pc := 18) hK [.int x2] (m_X7_castBy (zC_D hK) ht0 qv_2) sv_X7_castBy q_1209 ht0 rfl [.int x1] rfl (Nat.le_of_ble_eq_true rfl) ⟨by decide, by decide⟩ dX7_allCasts_18 (z_iadd (pc := 21) hK dX7_allCasts_21 (z_istore_n (pc := 22) hK (lv' := [(1, .int (x1 + v_2)), (0, .ref (G.2.2.2 t0)), (2, .int x2)]) dX7_allCasts_22 (by decide) rfl (z_iinc (pc := 23) hK 2 (lv' := [(2, .int (x2 + 1)), (1, .int (x1 + v_2)), (0, .ref (G.2.2.2 t0))]) dX7_allCasts_23 rfl (zc_n1 _) (by decide) rfl (z_goto (pc := 26) hK 4 dX7_allCasts_26 (by decide) (zsub (lv' := [(0, .ref (G.2.2.2 t0)), (1, .int (x1 + v_2)), (2, .int (x2 + 1))]) [2, 1, 0] rfl (ih (x1 + v_2) (x2 + 1) hg)))))))))
set_option maxRecDepth 100000 in
set_option maxHeartbeats 4000000 in
theorem b_X7_allCasts {K : zK} {G : zG} (hK : zC K G cX7_allCasts RX7 3 1 23 (some .int)) {h : zH} {t0 : Nat} (ht0 : zT t0 = (6, 0)) {r : Int32} (hE : zE K G (some (.int r)) h) (hg : g_X7_allCasts h t0 = some r) : zW K G 3 0 [(0, .ref (G.2.2.2 t0))] [] h := by
  rw [g_X7_allCasts] at hg
  exact z_iconst (pc := 0) hK dX7_allCasts_0 zc_i0 (z_istore_n (pc := 1) hK (lv' := [(1, .int 0), (0, .ref (G.2.2.2 t0))]) dX7_allCasts_1 (by decide) rfl (z_iconst (pc := 2) hK dX7_allCasts_2 zc_i0 (z_istore_n (pc := 3) hK (lv' := [(2, .int 0), (1, .int 0), (0, .ref (G.2.2.2 t0))]) dX7_allCasts_3 (by decide) rfl (zsub (lv' := [(0, .ref (G.2.2.2 t0)), (1, .int 0), (2, .int 0)]) [2, 1, 0] rfl (b_X7_allCasts_4 hK ht0 hE zfu 0 0 hg)))))
theorem m_X7_allCasts {l : Launch} {G : zG} (hG : zD G) {h : zH} {t0 : Nat} (ht0 : zT t0 = (6, 0)) {r : Int32} (hg : g_X7_allCasts h t0 = some r) : zM l G yX7_allCasts cX7_allCasts 3 (some .int) 1 23 [.ref (G.2.2.2 t0)] h (some (.int r)) h :=
  zM_of hG pn_X7 (Nat.le_of_ble_eq_true rfl) (fun K _ hK hE => b_X7_allCasts hK ht0 hE hg)
theorem dX8_append_0 : decode cX8_append 0 = .ok (.bipush 56, 2) := by decide +kernel
theorem dX8_append_2 : decode cX8_append 2 = .ok (.istore_n 3, 1) := by decide +kernel
theorem dX8_append_3 : decode cX8_append 3 = .ok (.iload_n 3, 1) := by decide +kernel
theorem dX8_append_4 : decode cX8_append 4 = .ok (.ifCond .lt 84, 3) := by decide +kernel
theorem dX8_append_7 : decode cX8_append 7 = .ok (.lload_n 1, 1) := by decide +kernel
theorem dX8_append_8 : decode cX8_append 8 = .ok (.iload_n 3, 1) := by decide +kernel
theorem dX8_append_9 : decode cX8_append 9 = .ok (.lushr, 1) := by decide +kernel
theorem dX8_append_10 : decode cX8_append 10 = .ok (.l2i, 1) := by decide +kernel
theorem dX8_append_11 : decode cX8_append 11 = .ok (.sipush 255, 3) := by decide +kernel
theorem dX8_append_14 : decode cX8_append 14 = .ok (.iand, 1) := by decide +kernel
theorem dX8_append_15 : decode cX8_append 15 = .ok (.istore 4, 2) := by decide +kernel
theorem dX8_append_17 : decode cX8_append 17 = .ok (.iload 4, 2) := by decide +kernel
theorem dX8_append_19 : decode cX8_append 19 = .ok (.bipush 10, 2) := by decide +kernel
theorem dX8_append_21 : decode cX8_append 21 = .ok (.if_icmp .eq 17, 3) := by decide +kernel
theorem dX8_append_24 : decode cX8_append 24 = .ok (.iload 4, 2) := by decide +kernel
theorem dX8_append_26 : decode cX8_append 26 = .ok (.bipush 32, 2) := by decide +kernel
theorem dX8_append_28 : decode cX8_append 28 = .ok (.if_icmp .lt 14, 3) := by decide +kernel
theorem dX8_append_31 : decode cX8_append 31 = .ok (.iload 4, 2) := by decide +kernel
theorem dX8_append_33 : decode cX8_append 33 = .ok (.bipush 126, 2) := by decide +kernel
theorem dX8_append_35 : decode cX8_append 35 = .ok (.if_icmp .gt 7, 3) := by decide +kernel
theorem dX8_append_38 : decode cX8_append 38 = .ok (.iconst 1, 1) := by decide +kernel
theorem dX8_append_39 : decode cX8_append 39 = .ok (.goto 4, 3) := by decide +kernel
theorem dX8_append_42 : decode cX8_append 42 = .ok (.iconst 0, 1) := by decide +kernel
theorem dX8_append_43 : decode cX8_append 43 = .ok (.istore 5, 2) := by decide +kernel
theorem dX8_append_45 : decode cX8_append 45 = .ok (.iload 5, 2) := by decide +kernel
theorem dX8_append_47 : decode cX8_append 47 = .ok (.ifCond .eq 35, 3) := by decide +kernel
theorem dX8_append_50 : decode cX8_append 50 = .ok (.aload_n 0, 1) := by decide +kernel
theorem dX8_append_51 : decode cX8_append 51 = .ok (.getfield 13, 3) := by decide +kernel
theorem dX8_append_54 : decode cX8_append 54 = .ok (.sipush 1000, 3) := by decide +kernel
theorem dX8_append_57 : decode cX8_append 57 = .ok (.if_icmp .ge 25, 3) := by decide +kernel
theorem dX8_append_60 : decode cX8_append 60 = .ok (.aload_n 0, 1) := by decide +kernel
theorem dX8_append_61 : decode cX8_append 61 = .ok (.getfield 9, 3) := by decide +kernel
theorem dX8_append_64 : decode cX8_append 64 = .ok (.aload_n 0, 1) := by decide +kernel
theorem dX8_append_65 : decode cX8_append 65 = .ok (.getfield 13, 3) := by decide +kernel
theorem dX8_append_68 : decode cX8_append 68 = .ok (.iload 4, 2) := by decide +kernel
theorem dX8_append_70 : decode cX8_append 70 = .ok (.i2c, 1) := by decide +kernel
theorem dX8_append_71 : decode cX8_append 71 = .ok (.castore, 1) := by decide +kernel
theorem dX8_append_72 : decode cX8_append 72 = .ok (.aload_n 0, 1) := by decide +kernel
theorem dX8_append_73 : decode cX8_append 73 = .ok (.dup, 1) := by decide +kernel
theorem dX8_append_74 : decode cX8_append 74 = .ok (.getfield 13, 3) := by decide +kernel
theorem dX8_append_77 : decode cX8_append 77 = .ok (.iconst 1, 1) := by decide +kernel
theorem dX8_append_78 : decode cX8_append 78 = .ok (.iadd, 1) := by decide +kernel
theorem dX8_append_79 : decode cX8_append 79 = .ok (.putfield 13, 3) := by decide +kernel
theorem dX8_append_82 : decode cX8_append 82 = .ok (.iinc 3 (-8), 3) := by decide +kernel
theorem dX8_append_85 : decode cX8_append 85 = .ok (.goto (-82), 3) := by decide +kernel
theorem dX8_append_88 : decode cX8_append 88 = .ok (.return_, 1) := by decide +kernel
def g_X8_append_43 (t0 : Nat) (k3 : Int64 → Int32 → zH → Option zH) (x1 : Int64) (x3 : Int32) (x4 : Int32) (s0 : Int32) (h : zH) : Option zH := if s0 = 0 then (k3 x1 (x3 + (-8)) h) else (if 1000 ≤ (h.1 t0 1) then (k3 x1 (x3 + (-8)) h) else (zgu (zin (h.1 t0 1) 1000) <| zlet (zpi h (zR t0 0) (zx (h.1 t0 1)) (vp_nar .char ((x4.toUInt32 % 65536).toInt32))) fun h_9 => zlet (zpi h_9 t0 1 ((h_9.1 t0 1) + 1)) fun h_10 => k3 x1 (x3 + (-8)) h_10))
def g_X8_append_42 (t0 : Nat) (k3 : Int64 → Int32 → zH → Option zH) (x1 : Int64) (x3 : Int32) (x4 : Int32) (h : zH) : Option zH := g_X8_append_43 t0 k3 x1 x3 x4 0 h
def g_X8_append_38 (t0 : Nat) (k3 : Int64 → Int32 → zH → Option zH) (x1 : Int64) (x3 : Int32) (x4 : Int32) (h : zH) : Option zH := g_X8_append_43 t0 k3 x1 x3 x4 1 h
def g_X8_append_3 (t0 : Nat)  : Nat → Int64 → Int32 → zH → Option zH
  | 0, _, _, _ => none
  | n + 1, x1, x3, h => if x3 < 0 then (some h) else (zlet ((((x1.toUInt64 >>> (x3.toInt64.toUInt64 &&& Int64.toUInt64 63)).toInt64).toInt32) &&& 255) fun v_2 => if v_2 = 10 then (g_X8_append_38 t0 (g_X8_append_3 t0 n) x1 x3 v_2 h) else (if v_2 < 32 then (g_X8_append_42 t0 (g_X8_append_3 t0 n) x1 x3 v_2 h) else (if 126 < v_2 then (g_X8_append_42 t0 (g_X8_append_3 t0 n) x1 x3 v_2 h) else (g_X8_append_38 t0 (g_X8_append_3 t0 n) x1 x3 v_2 h))))
def g_X8_append (h : zH) (t0 : Nat) (x1 : Int64) : Option zH := g_X8_append_3 t0 zfu x1 56 h
set_option maxRecDepth 100000 in
set_option maxHeartbeats 4000000 in
theorem b_X8_append_43 {K : zK} {G : zG} (hK : zC K G cX8_append RX8 6 0 0 none) {t0 : Nat} (ht0 : zT t0 = (7, 0)) {r : zH} (hE : zE K G (none) r) {k3 : Int64 → Int32 → zH → Option zH} (hk3 : ∀ (x1 : Int64) (x3 : Int32) (h : zH), k3 x1 x3 h = some r → zW K G 6 3 [(0, .ref (G.2.2.2 t0)), (1, .long x1), (3, .int x3)] [] h) (x1 : Int64) (x3 : Int32) (x4 : Int32) (s0 : Int32) (h : zH) (hg : g_X8_append_43 t0 k3 x1 x3 x4 s0 h = some r) : zW K G 6 43 [(0, .ref (G.2.2.2 t0)), (1, .long x1), (3, .int x3), (4, .int x4)] [.int s0] h := by
  rw [g_X8_append_43] at hg
  refine z_istore (pc := 43) hK (lv' := [(5, .int s0), (0, .ref (G.2.2.2 t0)), (1, .long x1), (3, .int x3), (4, .int x4)]) dX8_append_43 (by decide) rfl (z_iload (pc := 45) hK 0 dX8_append_45 rfl (z_if_eq (pc := 47) hK 82 dX8_append_47 (by decide) (fun c_6 => ?_) (fun c_6 => ?_)))
  · rw [if_pos c_6] at hg
    exact z_iinc (pc := 82) hK 3 (lv' := [(3, .int (x3 + (-8))), (5, .int s0), (0, .ref (G.2.2.2 t0)), (1, .long x1), (4, .int x4)]) dX8_append_82 rfl (zc_nm8 _) (by decide) rfl (z_goto (pc := 85) hK 3 dX8_append_85 (by decide) (zsub (lv' := [(0, .ref (G.2.2.2 t0)), (1, .long x1), (3, .int (x3 + (-8)))]) [2, 3, 0] rfl (hk3 x1 (x3 + (-8)) h hg)))
  · rw [if_neg c_6] at hg
    refine z_aload_n (pc := 50) hK 1 dX8_append_50 rfl (z_getI (pc := 51) hK f_X8_13_7 ht0 dX8_append_51 (z_sipush (pc := 54) hK dX8_append_54 zc_s1000 (z_icmp_ge (pc := 57) hK 82 dX8_append_57 (by decide) (fun c_7 => ?_) (fun c_7 => ?_))))
    · rw [if_pos c_7] at hg
      exact z_iinc (pc := 82) hK 3 (lv' := [(3, .int (x3 + (-8))), (5, .int s0), (0, .ref (G.2.2.2 t0)), (1, .long x1), (4, .int x4)]) dX8_append_82 rfl (zc_nm8 _) (by decide) rfl (z_goto (pc := 85) hK 3 dX8_append_85 (by decide) (zsub (lv' := [(0, .ref (G.2.2.2 t0)), (1, .long x1), (3, .int (x3 + (-8)))]) [2, 3, 0] rfl (hk3 x1 (x3 + (-8)) h hg)))
    · rw [if_neg c_7] at hg
      obtain ⟨c_8, hg⟩ := zgu_some hg
      obtain ⟨h_9, eh_9, hg⟩ := zlet_some hg
      obtain ⟨h_10, eh_10, hg⟩ := zlet_some hg
      exact z_aload_n (pc := 60) hK 1 dX8_append_60 rfl (z_getR (pc := 61) hK f_X8_9_7 ht0 dX8_append_61 (z_aload_n (pc := 64) hK 1 dX8_append_64 rfl (z_getI (pc := 65) hK f_X8_13_7 ht0 dX8_append_65 (z_iload (pc := 68) hK 4 dX8_append_68 rfl (z_i2c (pc := 70) hK dX8_append_70 rfl (z_cast (pc := 71) hK (zt_7_0 ht0) c_8 dX8_append_71 (z_nameH eh_9 (z_aload_n (pc := 72) hK 1 dX8_append_72 rfl (z_dup (pc := 73) hK dX8_append_73 rfl (z_getI (pc := 74) hK f_X8_13_7 ht0 dX8_append_74 (z_iconst (pc := 77) hK dX8_append_77 zc_i1 (z_iadd (pc := 78) hK dX8_append_78 (z_putI (pc := 79) hK f_X8_13_7 fp_7_1 ht0 dX8_append_79 (z_nameH eh_10 (z_iinc (pc := 82) hK 3 (lv' := [(3, .int (x3 + (-8))), (5, .int s0), (0, .ref (G.2.2.2 t0)), (1, .long x1), (4, .int x4)]) dX8_append_82 rfl (zc_nm8 _) (by decide) rfl (z_goto (pc := 85) hK 3 dX8_append_85 (by decide) (zsub (lv' := [(0, .ref (G.2.2.2 t0)), (1, .long x1), (3, .int (x3 + (-8)))]) [2, 3, 0] rfl (hk3 x1 (x3 + (-8)) h_10 hg))))))))))))))))))
set_option maxRecDepth 100000 in
set_option maxHeartbeats 4000000 in
theorem b_X8_append_42 {K : zK} {G : zG} (hK : zC K G cX8_append RX8 6 0 0 none) {t0 : Nat} (ht0 : zT t0 = (7, 0)) {r : zH} (hE : zE K G (none) r) {k3 : Int64 → Int32 → zH → Option zH} (hk3 : ∀ (x1 : Int64) (x3 : Int32) (h : zH), k3 x1 x3 h = some r → zW K G 6 3 [(0, .ref (G.2.2.2 t0)), (1, .long x1), (3, .int x3)] [] h) (x1 : Int64) (x3 : Int32) (x4 : Int32) (h : zH) (hg : g_X8_append_42 t0 k3 x1 x3 x4 h = some r) : zW K G 6 42 [(0, .ref (G.2.2.2 t0)), (1, .long x1), (3, .int x3), (4, .int x4)] [] h := by
  rw [g_X8_append_42] at hg
  exact z_iconst (pc := 42) hK dX8_append_42 zc_i0 (zsub (lv' := [(0, .ref (G.2.2.2 t0)), (1, .long x1), (3, .int x3), (4, .int x4)]) [0, 1, 2, 3] rfl (b_X8_append_43 hK ht0 hE hk3 x1 x3 x4 0 h hg))
set_option maxRecDepth 100000 in
set_option maxHeartbeats 4000000 in
theorem b_X8_append_38 {K : zK} {G : zG} (hK : zC K G cX8_append RX8 6 0 0 none) {t0 : Nat} (ht0 : zT t0 = (7, 0)) {r : zH} (hE : zE K G (none) r) {k3 : Int64 → Int32 → zH → Option zH} (hk3 : ∀ (x1 : Int64) (x3 : Int32) (h : zH), k3 x1 x3 h = some r → zW K G 6 3 [(0, .ref (G.2.2.2 t0)), (1, .long x1), (3, .int x3)] [] h) (x1 : Int64) (x3 : Int32) (x4 : Int32) (h : zH) (hg : g_X8_append_38 t0 k3 x1 x3 x4 h = some r) : zW K G 6 38 [(0, .ref (G.2.2.2 t0)), (1, .long x1), (3, .int x3), (4, .int x4)] [] h := by
  rw [g_X8_append_38] at hg
  exact z_iconst (pc := 38) hK dX8_append_38 zc_i1 (z_goto (pc := 39) hK 43 dX8_append_39 (by decide) (zsub (lv' := [(0, .ref (G.2.2.2 t0)), (1, .long x1), (3, .int x3), (4, .int x4)]) [0, 1, 2, 3] rfl (b_X8_append_43 hK ht0 hE hk3 x1 x3 x4 1 h hg)))
set_option maxRecDepth 100000 in
set_option maxHeartbeats 4000000 in
theorem b_X8_append_3 {K : zK} {G : zG} (hK : zC K G cX8_append RX8 6 0 0 none) {t0 : Nat} (ht0 : zT t0 = (7, 0)) {r : zH} (hE : zE K G (none) r) : ∀ (n : Nat) (x1 : Int64) (x3 : Int32) (h : zH), g_X8_append_3 t0 n x1 x3 h = some r → zW K G 6 3 [(0, .ref (G.2.2.2 t0)), (1, .long x1), (3, .int x3)] [] h := by
  intro n
  induction n with
  | zero => intro x1 x3 h hg; exact nomatch (show none = some r from hg)
  | succ n ih =>
    intro x1 x3 h hg
    rw [g_X8_append_3] at hg
    refine z_iload_n (pc := 3) hK 2 dX8_append_3 rfl (z_if_lt (pc := 4) hK 88 dX8_append_4 (by decide) (fun c_1 => ?_) (fun c_1 => ?_))
    · rw [if_pos c_1] at hg
      exact z_vretE (pc := 88) hK hE hg dX8_append_88
    · rw [if_neg c_1] at hg
      obtain ⟨v_2, ev_2, hg⟩ := zlet_some hg
      refine z_lload_n (pc := 7) hK 1 dX8_append_7 rfl (z_iload_n (pc := 8) hK 2 dX8_append_8 rfl (z_lushr (pc := 9) hK dX8_append_9 rfl (z_l2i (pc := 10) hK dX8_append_10 rfl (z_sipush (pc := 11) hK dX8_append_11 zc_s255 (z_iand (pc := 14) hK dX8_append_14 (z_nameI ev_2 (z_istore (pc := 15) hK (lv' := [(4, .int v_2), (0, .ref (G.2.2.2 t0)), (1, .long x1), (3, .int x3)]) dX8_append_15 (by decide) rfl (z_iload (pc := 17) hK 0 dX8_append_17 rfl (z_bipush (pc := 19) hK dX8_append_19 zc_b10 (z_icmp_eq (pc := 21) hK 38 dX8_append_21 (by decide) (fun c_3 => ?_) (fun c_3 => ?_)))))))))))
      · rw [if_pos c_3] at hg
        exact zsub (lv' := [(0, .ref (G.2.2.2 t0)), (1, .long x1), (3, .int x3), (4, .int v_2)]) [1, 2, 3, 0] rfl (b_X8_append_38 hK ht0 hE ih x1 x3 v_2 h hg)
      · rw [if_neg c_3] at hg
        refine z_iload (pc := 24) hK 0 dX8_append_24 rfl (z_bipush (pc := 26) hK dX8_append_26 zc_b32 (z_icmp_lt (pc := 28) hK 42 dX8_append_28 (by decide) (fun c_4 => ?_) (fun c_4 => ?_)))
        · rw [if_pos c_4] at hg
          exact zsub (lv' := [(0, .ref (G.2.2.2 t0)), (1, .long x1), (3, .int x3), (4, .int v_2)]) [1, 2, 3, 0] rfl (b_X8_append_42 hK ht0 hE ih x1 x3 v_2 h hg)
        · rw [if_neg c_4] at hg
          refine z_iload (pc := 31) hK 0 dX8_append_31 rfl (z_bipush (pc := 33) hK dX8_append_33 zc_b126 (z_icmp_gt (pc := 35) hK 42 dX8_append_35 (by decide) (fun c_5 => ?_) (fun c_5 => ?_)))
          · rw [if_pos c_5] at hg
            exact zsub (lv' := [(0, .ref (G.2.2.2 t0)), (1, .long x1), (3, .int x3), (4, .int v_2)]) [1, 2, 3, 0] rfl (b_X8_append_42 hK ht0 hE ih x1 x3 v_2 h hg)
          · rw [if_neg c_5] at hg
            exact zsub (lv' := [(0, .ref (G.2.2.2 t0)), (1, .long x1), (3, .int x3), (4, .int v_2)]) [1, 2, 3, 0] rfl (b_X8_append_38 hK ht0 hE ih x1 x3 v_2 h hg)
set_option maxRecDepth 100000 in
set_option maxHeartbeats 4000000 in
theorem b_X8_append {K : zK} {G : zG} (hK : zC K G cX8_append RX8 6 0 0 none) {h : zH} {t0 : Nat} {x1 : Int64} (ht0 : zT t0 = (7, 0)) {r : zH} (hE : zE K G (none) r) (hg : g_X8_append h t0 x1 = some r) : zW K G 6 0 [(0, .ref (G.2.2.2 t0)), (1, .long x1)] [] h := by
  rw [g_X8_append] at hg
  exact z_bipush (pc := 0) hK dX8_append_0 zc_b56 (z_istore_n (pc := 2) hK (lv' := [(3, .int 56), (0, .ref (G.2.2.2 t0)), (1, .long x1)]) dX8_append_2 (by decide) rfl (zsub (lv' := [(0, .ref (G.2.2.2 t0)), (1, .long x1), (3, .int 56)]) [1, 2, 0] rfl (b_X8_append_3 hK ht0 hE zfu x1 56 h hg)))
theorem m_X8_append {l : Launch} {G : zG} (hG : zD G) {h : zH} {t0 : Nat} {x1 : Int64} (ht0 : zT t0 = (7, 0)) {r : zH} (hg : g_X8_append h t0 x1 = some r) : zM l G yX8_append cX8_append 6 none 0 0 [.ref (G.2.2.2 t0), .long x1] h (none) r :=
  zM_of hG pn_X8 (Nat.le_of_ble_eq_true rfl) (fun K _ hK hE => b_X8_append hK ht0 hE hg)
theorem dX8_lookAtFirst_0 : decode cX8_lookAtFirst 0 = .ok (.aload_n 0, 1) := by decide +kernel
theorem dX8_lookAtFirst_1 : decode cX8_lookAtFirst 1 = .ok (.iconst 0, 1) := by decide +kernel
theorem dX8_lookAtFirst_2 : decode cX8_lookAtFirst 2 = .ok (.putfield 17, 3) := by decide +kernel
theorem dX8_lookAtFirst_5 : decode cX8_lookAtFirst 5 = .ok (.aload_n 0, 1) := by decide +kernel
theorem dX8_lookAtFirst_6 : decode cX8_lookAtFirst 6 = .ok (.invokevirtual 20, 3) := by decide +kernel
theorem dX8_lookAtFirst_9 : decode cX8_lookAtFirst 9 = .ok (.return_, 1) := by decide +kernel
def g_X8_lookAtFirst (h : zH) (t0 : Nat) : Option zH := zlet (zpi h t0 5 0) fun h_1 => (g_X8_lookAtNext h_1 t0).bind fun v_2 => some v_2
set_option maxRecDepth 100000 in
set_option maxHeartbeats 4000000 in
theorem b_X8_lookAtFirst {K : zK} {G : zG} (hK : zC K G cX8_lookAtFirst RX8 1 6 130 none) {h : zH} {t0 : Nat} (ht0 : zT t0 = (7, 0)) {r : zH} (hE : zE K G (none) r) (hg : g_X8_lookAtFirst h t0 = some r) : zW K G 1 0 [(0, .ref (G.2.2.2 t0))] [] h := by
  rw [g_X8_lookAtFirst] at hg
  obtain ⟨h_1, eh_1, hg⟩ := zlet_some hg
  obtain ⟨v_2, qv_2, hg⟩ := zbind_some hg
  exact z_aload_n (pc := 0) hK 0 dX8_lookAtFirst_0 rfl (z_iconst (pc := 1) hK dX8_lookAtFirst_1 zc_i0 (z_putI (pc := 2) hK f_X8_17_7 fp_7_5 ht0 dX8_lookAtFirst_2 (z_nameH eh_1 (z_aload_n (pc := 5) hK 0 dX8_lookAtFirst_5 rfl (z_callVv (pc := 6) hK [] (m_X8_lookAtNext (zC_D hK) ht0 qv_2) sv_X8_lookAtNext q_536 ht0 rfl [] rfl (Nat.le_of_ble_eq_true rfl) ⟨by decide, by decide⟩ dX8_lookAtFirst_6 (z_vretE (pc := 9) hK hE hg dX8_lookAtFirst_9))))))
theorem m_X8_lookAtFirst {l : Launch} {G : zG} (hG : zD G) {h : zH} {t0 : Nat} (ht0 : zT t0 = (7, 0)) {r : zH} (hg : g_X8_lookAtFirst h t0 = some r) : zM l G yX8_lookAtFirst cX8_lookAtFirst 1 none 6 130 [.ref (G.2.2.2 t0)] h (none) r :=
  zM_of hG pn_X8 (Nat.le_of_ble_eq_true rfl) (fun K _ hK hE => b_X8_lookAtFirst hK ht0 hE hg)
theorem dX9_add_0 : decode cX9_add 0 = .ok (.aload_n 0, 1) := by decide +kernel
theorem dX9_add_1 : decode cX9_add 1 = .ok (.getfield 19, 3) := by decide +kernel
theorem dX9_add_4 : decode cX9_add 4 = .ok (.bipush 40, 2) := by decide +kernel
theorem dX9_add_6 : decode cX9_add 6 = .ok (.if_icmp .ge 33, 3) := by decide +kernel
theorem dX9_add_9 : decode cX9_add 9 = .ok (.aload_n 0, 1) := by decide +kernel
theorem dX9_add_10 : decode cX9_add 10 = .ok (.getfield 9, 3) := by decide +kernel
theorem dX9_add_13 : decode cX9_add 13 = .ok (.aload_n 0, 1) := by decide +kernel
theorem dX9_add_14 : decode cX9_add 14 = .ok (.getfield 19, 3) := by decide +kernel
theorem dX9_add_17 : decode cX9_add 17 = .ok (.iload_n 3, 1) := by decide +kernel
theorem dX9_add_18 : decode cX9_add 18 = .ok (.bipush 8, 2) := by decide +kernel
theorem dX9_add_20 : decode cX9_add 20 = .ok (.iload_n 2, 1) := by decide +kernel
theorem dX9_add_21 : decode cX9_add 21 = .ok (.imul, 1) := by decide +kernel
theorem dX9_add_22 : decode cX9_add 22 = .ok (.iadd, 1) := by decide +kernel
theorem dX9_add_23 : decode cX9_add 23 = .ok (.bipush 64, 2) := by decide +kernel
theorem dX9_add_25 : decode cX9_add 25 = .ok (.iload_n 1, 1) := by decide +kernel
theorem dX9_add_26 : decode cX9_add 26 = .ok (.imul, 1) := by decide +kernel
theorem dX9_add_27 : decode cX9_add 27 = .ok (.iadd, 1) := by decide +kernel
theorem dX9_add_28 : decode cX9_add 28 = .ok (.iastore, 1) := by decide +kernel
theorem dX9_add_29 : decode cX9_add 29 = .ok (.aload_n 0, 1) := by decide +kernel
theorem dX9_add_30 : decode cX9_add 30 = .ok (.dup, 1) := by decide +kernel
theorem dX9_add_31 : decode cX9_add 31 = .ok (.getfield 19, 3) := by decide +kernel
theorem dX9_add_34 : decode cX9_add 34 = .ok (.iconst 1, 1) := by decide +kernel
theorem dX9_add_35 : decode cX9_add 35 = .ok (.iadd, 1) := by decide +kernel
theorem dX9_add_36 : decode cX9_add 36 = .ok (.putfield 19, 3) := by decide +kernel
theorem dX9_add_39 : decode cX9_add 39 = .ok (.return_, 1) := by decide +kernel
def g_X9_add (h : zH) (t0 : Nat) (x1 : Int32) (x2 : Int32) (x3 : Int32) : Option zH := if 40 ≤ (h.1 t0 1) then (some h) else (zgu (zin (h.1 t0 1) 40) <| zlet (zpi h (zR t0 0) (zx (h.1 t0 1)) ((x3 + (8 * x2)) + (64 * x1))) fun h_3 => zlet (zpi h_3 t0 1 ((h_3.1 t0 1) + 1)) fun h_4 => some h_4)
set_option maxRecDepth 100000 in
set_option maxHeartbeats 4000000 in
theorem b_X9_add {K : zK} {G : zG} (hK : zC K G cX9_add RX9 4 0 0 none) {h : zH} {t0 : Nat} {x1 : Int32} {x2 : Int32} {x3 : Int32} (ht0 : zT t0 = (8, 0)) {r : zH} (hE : zE K G (none) r) (hg : g_X9_add h t0 x1 x2 x3 = some r) : zW K G 4 0 [(0, .ref (G.2.2.2 t0)), (1, .int x1), (2, .int x2), (3, .int x3)] [] h := by
  rw [g_X9_add] at hg
  refine z_aload_n (pc := 0) hK 0 dX9_add_0 rfl (z_getI (pc := 1) hK f_X9_19_8 ht0 dX9_add_1 (z_bipush (pc := 4) hK dX9_add_4 zc_b40 (z_icmp_ge (pc := 6) hK 39 dX9_add_6 (by decide) (fun c_1 => ?_) (fun c_1 => ?_))))
  · rw [if_pos c_1] at hg
    exact z_vretE (pc := 39) hK hE hg dX9_add_39
  · rw [if_neg c_1] at hg
    obtain ⟨c_2, hg⟩ := zgu_some hg
    obtain ⟨h_3, eh_3, hg⟩ := zlet_some hg
    obtain ⟨h_4, eh_4, hg⟩ := zlet_some hg
    exact z_aload_n (pc := 9) hK 0 dX9_add_9 rfl (z_getR (pc := 10) hK f_X9_9_8 ht0 dX9_add_10 (z_aload_n (pc := 13) hK 0 dX9_add_13 rfl (z_getI (pc := 14) hK f_X9_19_8 ht0 dX9_add_14 (z_iload_n (pc := 17) hK 3 dX9_add_17 rfl (z_bipush (pc := 18) hK dX9_add_18 zc_b8 (z_iload_n (pc := 20) hK 2 dX9_add_20 rfl (z_imul (pc := 21) hK dX9_add_21 (z_iadd (pc := 22) hK dX9_add_22 (z_bipush (pc := 23) hK dX9_add_23 zc_b64 (z_iload_n (pc := 25) hK 1 dX9_add_25 rfl (z_imul (pc := 26) hK dX9_add_26 (z_iadd (pc := 27) hK dX9_add_27 (z_iast (pc := 28) hK (zt_8_0 ht0) c_2 dX9_add_28 (z_nameH eh_3 (z_aload_n (pc := 29) hK 0 dX9_add_29 rfl (z_dup (pc := 30) hK dX9_add_30 rfl (z_getI (pc := 31) hK f_X9_19_8 ht0 dX9_add_31 (z_iconst (pc := 34) hK dX9_add_34 zc_i1 (z_iadd (pc := 35) hK dX9_add_35 (z_putI (pc := 36) hK f_X9_19_8 fp_8_1 ht0 dX9_add_36 (z_nameH eh_4 (z_vretE (pc := 39) hK hE hg dX9_add_39))))))))))))))))))))))
theorem m_X9_add {l : Launch} {G : zG} (hG : zD G) {h : zH} {t0 : Nat} {x1 : Int32} {x2 : Int32} {x3 : Int32} (ht0 : zT t0 = (8, 0)) {r : zH} (hg : g_X9_add h t0 x1 x2 x3 = some r) : zM l G yX9_add cX9_add 4 none 0 0 [.ref (G.2.2.2 t0), .int x1, .int x2, .int x3] h (none) r :=
  zM_of hG pn_X9 (Nat.le_of_ble_eq_true rfl) (fun K _ hK hE => b_X9_add hK ht0 hE hg)
