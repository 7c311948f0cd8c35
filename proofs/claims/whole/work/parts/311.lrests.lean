/-! the law's own rests: it catches -/
theorem z_0 : zT 0 = (10, 0) := by decide
theorem z_139 : zT 139 = (11, 0) := by decide
theorem z_177 : zT 177 = (21, 1) := by decide
theorem x_blind {G : zG} {h : zH} {vs : List Value} : FrameBlind (va_Pc vs (xP G h)) := by
  intro a U g mk q
  obtain ⟨q0, qP, qK, qZ, qX⟩ := q
  exact ⟨q0, qP, va_K.moved (u := U) (U := U.calling g mk a) (Vm.Alike.refl U.vm) qK, zS_calling qZ, xS_calling qX⟩
set_option maxHeartbeats 2000000 in
theorem lM_body {p : Program} {l : Launch} {e : Env} {R : Room} {s : State} {m : MethodId} {args : Array Value} {below : List Frame} {meth : Method} {c9 : Code} {G : zG} {h : zH} {a b c w : Int32} (hx : p.tables.exec = Jvm.exec) (hb : c9.code = cL_rests) (hml : c9.maxLocals = 7) (hown : s.vm.findClass RL = some m.cls) (hts : ∀ w ∈ zTb, w.before args s = true) (hva : va_K (G.1, G.2.1) vwCl (zTy G) s) (hG : zD G) (hZ : zS G s s.heap) (hXS : xS (zA G) s s.heap) (htab : c9.exceptionTable.toList = [⟨0, 14, 17, 13⟩]) (hl : l.stackTraces = false) (hfr : 7 ≤ R.frames) (hlo : 107 ≤ R.locals) (hmc : 1 ≤ R.cells) (hms : 6 ≤ R.slots) (hrt : meth.sig.returnType = some .int) (hlk : meth.locks = false) (hP : zP G h s.heap) {ls : Array Slot} (hle : lv_has ls 7 [(0, .ref (G.2.2.2 0)), (1, .int a), (2, .int b), (3, .int c), (4, .int w), (5, .ref (G.2.2.2 177))]) : W p l e R s m args below meth c9 s.heap [] 0 0 (vx_MQ below (zQ G (some (.int (gL h a b c w).1)) (gL h a b c w).2) (fun _ _ _ => False) args s 1 6 (zA G)) (F0 m 0 ls []) := by
  refine lv_aload hx hb dL_rests_0 (lv_at hle 5 rfl) ?_
  refine lv_iconst (v := 0) hx hb dL_rests_2 (by decide) ?_
  refine lv_aload_n hx hb dL_rests_3 rfl (lv_at hle 0 rfl) ?_
  refine lv_iload_n hx hb dL_rests_4 rfl (lv_at hle 1 rfl) ?_
  refine lv_iload_n hx hb dL_rests_5 rfl (lv_at hle 2 rfl) ?_
  refine lv_iload_n hx hb dL_rests_6 rfl (lv_at hle 3 rfl) ?_
  refine lv_iload hx hb dL_rests_7 (lv_at hle 4 rfl) ?_
  obtain ⟨T, N, hlt, hc, w1, w2, w3, w4, hd⟩ := sv_X11_rests
  have he : (zL G h)[0]? = some (G.2.2.2 0, .inr (10, zobj G h 0 0 (zF 10))) := by rw [zL_get G h (by decide), zcell_obj G h z_0 (by decide)]
  have hrun := vx_runV (p := p) (e := e) (below := below) (meth := meth) (H := s.heap) (locs := []) (cells := 0) (slots := 0) (C := yX11_rests.cls) (b := G.2.2.2 0) (As := [.int a, .int b, .int c, .int w]) (rest := [.int 0, .ref (G.2.2.2 177)]) (g := F0 m 9 ls [.int w, .int c, .int b, .int a, .ref (G.2.2.2 0), .int 0, .ref (G.2.2.2 177)]) ⟨hx, hb, hml, hown, hts⟩ (xM l hl G hG h a b c w)
    (cwV 4 hts (zgoodIn (fun w h => by
      rcases List.mem_append.mp h with h | h
      · simp only [List.mem_cons, List.not_mem_nil, or_false] at h
        rcases h with rfl | rfl | rfl | rfl
        · exact qx_7
        · exact w1
        · exact w2
        · exact w3
      · rcases List.mem_cons.mp h with rfl | h
        · exact w4
        · exact h)) rfl rfl rfl ⟨rfl, hd⟩ ⟨hfr, hlo⟩)
    ⟨x_blind, va_recv hva hP hc he, fun U hU hW => ⟨rfl, by rw [hU]; exact hP, va_K.moved hW.alike hva, zS_call hZ va_S.rf hW hU, xS_call hXS va_S.rf hW hU (fun _ h => h)⟩⟩ rfl rfl hle.1 rfl (lv_room (Nat.le_of_ble_eq_true rfl)) dL_rests_9 ⟨hmc, hms⟩
  refine vx_calli (A0 := zA G) (H0 := s.heap) hrun va_S.rf (fun q _ h => h) (fun q h => h) (fun q _ h => h) ?_ ?_
  · intro E ce q9 u t H1 locs1 ht hvm hg hBX hz hk hS1 hce hcv hcl
    obtain ⟨rfl, hP1⟩ := hBX
    rw [ht] at hP1
    have e9 : gL h a b c w = (1, h) := by unfold gL; rw [hg]
    rw [e9]
    refine vx_catch (own := RL) (name := xNSE) hown [] ⟨0, 14, 17, 13⟩ [] htab (fun z hz => by cases hz) (by decide) (by decide) (hts _ qx_cl13) (va_Nw.use rfl hXS.2.2.2.2.2) hce hcv hcl ?_
    refine lv_astore hx hb dL_rests_17 hle (by decide) rfl (fun ls' hle' => ?_)
    refine lv_iconst (v := 1) hx hb dL_rests_19 (by decide) ?_
    exact vx_ret (W.iret hx hb hrt (fun t2 ht2 hW => ⟨⟨rfl, by rw [ht2]; exact hP1⟩, hS1.F ht2⟩) hS1.2.2 dL_rests_20 hlk)
  · intro r u t H1 locs1 ht hvm hg hB hz hk hS1
    have hP1 : zP G h H1 := by rw [← ht]; exact hB
    have e9 : gL h a b c w = (0, zpl h 177 0 r.toInt64) := by unfold gL; rw [hg]
    rw [e9]
    refine lv_i2l (v := r.toInt64) hx hb dL_rests_12 rfl ?_
    refine va_last hx hb hva hP1 (zD_va hG h) hS1 177 1 (by rw [zL_get G h (by decide), zcell_l G h z_177]) rfl (zin_vp (by decide)) dL_rests_13 (fun H2 locs2 hP2 hD2 hS2 => ?_)
    rw [zL_set G (h' := zpl h 177 (zx 0) r.toInt64) (by rw [zcell_l G _ z_177, zpl_row]; rfl) (zpl_ne G h), zxl_0] at hP2
    refine lv_goto (tgt := 21) hx hb dL_rests_14 (by decide) ?_
    refine lv_iconst (v := 0) hx hb dL_rests_21 (by decide) ?_
    exact vx_ret (W.iret hx hb hrt (fun t2 ht2 hW => ⟨⟨rfl, by rw [ht2]; exact hP2⟩, hS2.F ht2⟩) hS2.2.2 dL_rests_22 hlk)
theorem lM (l : Launch) (hl : l.stackTraces = false) (G : zG) (hG : zD G) (h : zH) (a b c w : Int32) : vx_Met l yL_rests (Cond.codeWith yL_rests cL_rests 7 (some .int) [(0, 14, 17, 13)] :: zTb) { frames := 7, cells := 1, slots := 6, locals := 107 } (va_Pc [.ref (G.2.2.2 0), .int a, .int b, .int c, .int w, .ref (G.2.2.2 177)] (xP G h)) (zQ G (some (.int (gL h a b c w).1)) (gL h a b c w).2) (fun _ _ _ => False) 1 6 (zA G) := by
  refine vx_ofWH (hh := [(0, 14, 17, 13)]) (cc := cL_rests) (maxL := 7) (ret := some .int) (by decide +kernel) rfl ?_
  intro p e s m args below meth c9 s₁ B hml hv
  obtain ⟨rfl, hP, hK, hZ, hXS⟩ := hv
  have hts0 := atoms_spec (ws := Cond.codeWith yL_rests cL_rests 7 (some .int) [(0, 14, 17, 13)] :: zTb) B.pre
  have hown : s.vm.findClass yL_rests.cls = some m.cls := findClass_of_methodNamed B.named
  have htab := vx_table (x := yL_rests) B (hts0 _ List.mem_cons_self)
  have hle := lv_entry [.ref (G.2.2.2 0), .int a, .int b, .int c, .int w, .ref (G.2.2.2 177)] (n := 7) (Nat.le_of_ble_eq_true rfl)
  rw [lg_entry_eq]
  exact lM_body B.exec B.bytes hml hown (fun w hw => hts0 w (List.mem_cons_of_mem _ hw)) hK hG hZ hXS htab hl (Nat.le_refl _) (Nat.le_refl _) (Nat.le_refl _) (Nat.le_refl _) B.returns B.notSynchronized hP hle
section Lx
variable {K : zK} {G : zG} {cc : ByteArray} {nL fr lo mc ms : Nat} {pc : Nat} {lv : List (Nat × Value)} {k n b L : Nat} {xs : Nat → Int32} {h : zH}
set_option maxHeartbeats 2000000 in
theorem l_callR (hK : kC K G (lA K) cc RL nL fr lo mc ms) (hX : lX K G b L xs) {x1 x2 x3 x4 : Int32} (hR : 8 ≤ fr ∧ 133 ≤ lo) (hdg : decode cc pc = .ok (.invokestatic 128, 3)) (hkm : k + 1 ≤ mc) (hnm : n + 6 ≤ ms) (c : kW K G (lA K) nL (pc + 3) lv [.int (gL h x1 x2 x3 x4).1] (zL G (gL h x1 x2 x3 x4).2) (k + 1) (n + 6)) : kW K G (lA K) nL pc lv [.ref (G.2.2.2 177), .int x4, .int x3, .int x2, .int x1, .ref (G.2.2.2 0)] (zL G h) k n := by
  have hDn := l_D hX (gL h x1 x2 x3 x4).2
  obtain ⟨p, l, e, R, s, m, args, below, meth, c0, Q⟩ := K
  obtain ⟨hx, hb, hml, hown, hts, hE, hfr, hlo, hmc, hms, hA⟩ := id hK
  obtain ⟨g1, g2, g3, g4, g5, g6, g7⟩ := hX
  have hAG : ∀ q, zA G q → s.heap.size ≤ q := fun q hz => by obtain ⟨t, ht, e⟩ := hz; rw [← e]; exact g2 t ht
  intro H locs ls hP hD hS hlv
  have hrun := vx_runSX (p := p) (e := e) (below := below) (meth := meth) (H := H) (locs := locs) (cells := k) (slots := n) (As := [.ref (G.2.2.2 0), .int x1, .int x2, .int x3, .int x4, .ref (G.2.2.2 177)]) (rest := []) (g := F0 m pc ls [.ref (G.2.2.2 177), .int x4, .int x3, .int x2, .int x1, .ref (G.2.2.2 0)]) ⟨hx, hb, hml, hown, hts⟩ (lM l g7 G g1 h x1 x2 x3 x4)
    (vx_cwSW 6 hts (zgoodIn (fun w h => by
      rcases List.mem_append.mp h with h | h
      · simp only [List.mem_cons, List.not_mem_nil, or_false] at h
        rcases h with rfl | rfl | rfl <;> first | exact qx_128 | exact qx_st | exact qx_inL
      · rcases List.mem_cons.mp h with rfl | h
        · exact qx_cw
        · exact h)) rfl rfl rfl ⟨by decide +kernel, by decide +kernel, by decide +kernel⟩ ⟨Nat.le_trans hR.1 hfr, Nat.le_trans hR.2 hlo⟩)
    ⟨x_blind, fun U hU hW => ⟨rfl, by rw [hU]; exact hP, va_K.moved hW.alike hE.1, zSA_call g3 hS hW hU hAG, xS_call g4 hS hW hU hAG⟩⟩ rfl rfl hlv.1 rfl (lv_room (Nat.le_of_ble_eq_true rfl)) hdg ⟨Nat.le_trans hkm hmc, Nat.le_trans hnm hms⟩
  intro T hT X
  rcases hrun T hT X with ⟨v, st₀, t9, T', L9, h0, X', hL, e1, e2, ⟨⟨ho, hb9⟩, hz, hk⟩, stp⟩ | ⟨q, st₀, t9, T', L9, E, ce, h0, X', hL, e1, e2, hF, _⟩
  · cases ho
    rw [h0] at hz hk
    obtain ⟨t2, a1, b1⟩ := c T'.heap (locs ++ L9) ls (by rw [e1]; exact hb9) hDn
      ⟨Nat.le_trans hS.1 (by rw [e1]; exact hz), fun q h1 h2 => by rw [e1, hk q (Nat.lt_of_lt_of_le h1 hS.1) (fun z => h2 (hAG q z))]; exact hS.2.1 q h1 h2, fun q hq => by
        rcases List.mem_append.mp hq with h | h
        · exact hS.2.2 q h
        · exact hAG _ (hL q h)⟩ hlv T' rfl X'
    exact ⟨t2, stp t2 a1, b1⟩
  · exact hF.elim
end Lx
